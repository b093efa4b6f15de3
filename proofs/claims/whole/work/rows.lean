section
-- ===== PART A: goes FIRST, ahead of the names: the tables' words, and 'selects' of the private methods out of them =====
/-- a private method of a class that the tables say can be made, by its rows of tables_1 -/
def lw_okq (q : MethodName × Nat) : Prop := (q.1.cls ≠ "java/lang/invoke/MethodHandle" ∧ q.1.cls ≠ "java/lang/invoke/VarHandle") ∧ Cond.instantiable q.1.cls q.2 ∈ tables_1 ∧ Cond.privateMethod q.1 ∈ tables_1 ∧ Cond.instanceMethod q.1 ∈ tables_1
theorem lw_p0 : lw_okq (⟨"VeneerLoft", "areasAgree", "()Z"⟩, 11) := ⟨⟨by decide +kernel, by decide +kernel⟩, List.mem_of_getElem? (i := 42) (by decide +kernel), List.mem_of_getElem? (i := 161) (by decide +kernel), List.mem_of_getElem? (i := 162) (by decide +kernel)⟩
theorem lw_p1 : lw_okq (⟨"VeneerLoft$Flitch", "hasLeaf", "(I)Z"⟩, 8) := ⟨⟨by decide +kernel, by decide +kernel⟩, List.mem_of_getElem? (i := 175) (by decide +kernel), List.mem_of_getElem? (i := 173) (by decide +kernel), List.mem_of_getElem? (i := 174) (by decide +kernel)⟩
theorem lw_p2 : lw_okq (⟨"VeneerLoft", "offcutArea", "()I"⟩, 11) := ⟨⟨by decide +kernel, by decide +kernel⟩, List.mem_of_getElem? (i := 42) (by decide +kernel), List.mem_of_getElem? (i := 178) (by decide +kernel), List.mem_of_getElem? (i := 179) (by decide +kernel)⟩
theorem lw_p3 : lw_okq (⟨"VeneerLoft", "unusedArea", "()I"⟩, 11) := ⟨⟨by decide +kernel, by decide +kernel⟩, List.mem_of_getElem? (i := 42) (by decide +kernel), List.mem_of_getElem? (i := 186) (by decide +kernel), List.mem_of_getElem? (i := 187) (by decide +kernel)⟩
theorem lw_p4 : lw_okq (⟨"VeneerLoft", "usesAgree", "()Z"⟩, 11) := ⟨⟨by decide +kernel, by decide +kernel⟩, List.mem_of_getElem? (i := 42) (by decide +kernel), List.mem_of_getElem? (i := 194) (by decide +kernel), List.mem_of_getElem? (i := 195) (by decide +kernel)⟩
theorem lw_p5 : lw_okq (⟨"VeneerLoft", "countUses", "(LVeneerLoft$Flitch;I)I"⟩, 11) := ⟨⟨by decide +kernel, by decide +kernel⟩, List.mem_of_getElem? (i := 42) (by decide +kernel), List.mem_of_getElem? (i := 198) (by decide +kernel), List.mem_of_getElem? (i := 199) (by decide +kernel)⟩
theorem lw_p6 : lw_okq (⟨"VeneerLoft", "placesAgree", "()Z"⟩, 11) := ⟨⟨by decide +kernel, by decide +kernel⟩, List.mem_of_getElem? (i := 42) (by decide +kernel), List.mem_of_getElem? (i := 209) (by decide +kernel), List.mem_of_getElem? (i := 210) (by decide +kernel)⟩
theorem lw_p7 : lw_okq (⟨"java/lang/Throwable", "fillInStackTrace", "(I)Ljava/lang/Throwable;"⟩, 6) := ⟨⟨by decide +kernel, by decide +kernel⟩, List.mem_of_getElem? (i := 358) (by decide +kernel), List.mem_of_getElem? (i := 356) (by decide +kernel), List.mem_of_getElem? (i := 357) (by decide +kernel)⟩
theorem lw_p8 : lw_okq (⟨"java/util/ArrayList", "add", "(Ljava/lang/Object;[Ljava/lang/Object;I)V"⟩, 3) := ⟨⟨by decide +kernel, by decide +kernel⟩, List.mem_of_getElem? (i := 50) (by decide +kernel), List.mem_of_getElem? (i := 430) (by decide +kernel), List.mem_of_getElem? (i := 431) (by decide +kernel)⟩
theorem lw_p9 : lw_okq (⟨"java/util/ArrayList", "grow", "()[Ljava/lang/Object;"⟩, 3) := ⟨⟨by decide +kernel, by decide +kernel⟩, List.mem_of_getElem? (i := 50) (by decide +kernel), List.mem_of_getElem? (i := 434) (by decide +kernel), List.mem_of_getElem? (i := 435) (by decide +kernel)⟩
theorem lw_p10 : lw_okq (⟨"java/util/ArrayList", "grow", "(I)[Ljava/lang/Object;"⟩, 3) := ⟨⟨by decide +kernel, by decide +kernel⟩, List.mem_of_getElem? (i := 50) (by decide +kernel), List.mem_of_getElem? (i := 438) (by decide +kernel), List.mem_of_getElem? (i := 439) (by decide +kernel)⟩
theorem lw_p11 : lw_okq (⟨"VeneerLoft", "logOf", "(I)LVeneerLoft$Log;"⟩, 11) := ⟨⟨by decide +kernel, by decide +kernel⟩, List.mem_of_getElem? (i := 42) (by decide +kernel), List.mem_of_getElem? (i := 532) (by decide +kernel), List.mem_of_getElem? (i := 533) (by decide +kernel)⟩
theorem lw_p12 : lw_okq (⟨"VeneerLoft", "flitchOf", "(I)LVeneerLoft$Flitch;"⟩, 11) := ⟨⟨by decide +kernel, by decide +kernel⟩, List.mem_of_getElem? (i := 42) (by decide +kernel), List.mem_of_getElem? (i := 642) (by decide +kernel), List.mem_of_getElem? (i := 643) (by decide +kernel)⟩
theorem lw_p13 : lw_okq (⟨"VeneerLoft", "flitchWithLeaf", "(II)LVeneerLoft$Flitch;"⟩, 11) := ⟨⟨by decide +kernel, by decide +kernel⟩, List.mem_of_getElem? (i := 42) (by decide +kernel), List.mem_of_getElem? (i := 653) (by decide +kernel), List.mem_of_getElem? (i := 654) (by decide +kernel)⟩
theorem lw_p14 : lw_okq (⟨"VeneerLoft", "flitchWithLeaves", "(III)LVeneerLoft$Flitch;"⟩, 11) := ⟨⟨by decide +kernel, by decide +kernel⟩, List.mem_of_getElem? (i := 42) (by decide +kernel), List.mem_of_getElem? (i := 657) (by decide +kernel), List.mem_of_getElem? (i := 658) (by decide +kernel)⟩
theorem lw_p15 : lw_okq (⟨"VeneerLoft", "panelOf", "(I)LVeneerLoft$Panel;"⟩, 11) := ⟨⟨by decide +kernel, by decide +kernel⟩, List.mem_of_getElem? (i := 42) (by decide +kernel), List.mem_of_getElem? (i := 762) (by decide +kernel), List.mem_of_getElem? (i := 763) (by decide +kernel)⟩
def lw_privs_1 : List (MethodName × Nat) := [(⟨"VeneerLoft", "areasAgree", "()Z"⟩, 11), (⟨"VeneerLoft$Flitch", "hasLeaf", "(I)Z"⟩, 8), (⟨"VeneerLoft", "offcutArea", "()I"⟩, 11), (⟨"VeneerLoft", "unusedArea", "()I"⟩, 11), (⟨"VeneerLoft", "usesAgree", "()Z"⟩, 11), (⟨"VeneerLoft", "countUses", "(LVeneerLoft$Flitch;I)I"⟩, 11), (⟨"VeneerLoft", "placesAgree", "()Z"⟩, 11), (⟨"java/lang/Throwable", "fillInStackTrace", "(I)Ljava/lang/Throwable;"⟩, 6), (⟨"java/util/ArrayList", "add", "(Ljava/lang/Object;[Ljava/lang/Object;I)V"⟩, 3), (⟨"java/util/ArrayList", "grow", "()[Ljava/lang/Object;"⟩, 3), (⟨"java/util/ArrayList", "grow", "(I)[Ljava/lang/Object;"⟩, 3), (⟨"VeneerLoft", "logOf", "(I)LVeneerLoft$Log;"⟩, 11), (⟨"VeneerLoft", "flitchOf", "(I)LVeneerLoft$Flitch;"⟩, 11), (⟨"VeneerLoft", "flitchWithLeaf", "(II)LVeneerLoft$Flitch;"⟩, 11), (⟨"VeneerLoft", "flitchWithLeaves", "(III)LVeneerLoft$Flitch;"⟩, 11), (⟨"VeneerLoft", "panelOf", "(I)LVeneerLoft$Panel;"⟩, 11)]
theorem lw_r1 : ∀ q ∈ lw_privs_1, lw_okq q := List.forall_mem_cons.mpr ⟨lw_p0, List.forall_mem_cons.mpr ⟨lw_p1, List.forall_mem_cons.mpr ⟨lw_p2, List.forall_mem_cons.mpr ⟨lw_p3, List.forall_mem_cons.mpr ⟨lw_p4, List.forall_mem_cons.mpr ⟨lw_p5, List.forall_mem_cons.mpr ⟨lw_p6, List.forall_mem_cons.mpr ⟨lw_p7, List.forall_mem_cons.mpr ⟨lw_p8, List.forall_mem_cons.mpr ⟨lw_p9, List.forall_mem_cons.mpr ⟨lw_p10, List.forall_mem_cons.mpr ⟨lw_p11, List.forall_mem_cons.mpr ⟨lw_p12, List.forall_mem_cons.mpr ⟨lw_p13, List.forall_mem_cons.mpr ⟨lw_p14, List.forall_mem_cons.mpr ⟨lw_p15, fun _ h => absurd h List.not_mem_nil⟩⟩⟩⟩⟩⟩⟩⟩⟩⟩⟩⟩⟩⟩⟩⟩
theorem lw_p16 : lw_okq (⟨"VeneerLoft", "layOn", "(LVeneerLoft$Panel;LVeneerLoft$Packet;)I"⟩, 11) := ⟨⟨by decide +kernel, by decide +kernel⟩, List.mem_of_getElem? (i := 42) (by decide +kernel), List.mem_of_getElem? (i := 802) (by decide +kernel), List.mem_of_getElem? (i := 803) (by decide +kernel)⟩
theorem lw_p17 : lw_okq (⟨"VeneerLoft", "pictureOf", "(I)LVeneerLoft$Picture;"⟩, 11) := ⟨⟨by decide +kernel, by decide +kernel⟩, List.mem_of_getElem? (i := 42) (by decide +kernel), List.mem_of_getElem? (i := 1012) (by decide +kernel), List.mem_of_getElem? (i := 1013) (by decide +kernel)⟩
theorem lw_p18 : lw_okq (⟨"VeneerLoft$Picture", "countPieces", "()V"⟩, 8) := ⟨⟨by decide +kernel, by decide +kernel⟩, List.mem_of_getElem? (i := 971) (by decide +kernel), List.mem_of_getElem? (i := 1026) (by decide +kernel), List.mem_of_getElem? (i := 1027) (by decide +kernel)⟩
theorem lw_p19 : lw_okq (⟨"VeneerLoft$Picture", "gatherPiece", "(I)I"⟩, 8) := ⟨⟨by decide +kernel, by decide +kernel⟩, List.mem_of_getElem? (i := 971) (by decide +kernel), List.mem_of_getElem? (i := 1030) (by decide +kernel), List.mem_of_getElem? (i := 1031) (by decide +kernel)⟩
theorem lw_p20 : lw_okq (⟨"VeneerLoft$Picture", "enqueue", "(II)I"⟩, 8) := ⟨⟨by decide +kernel, by decide +kernel⟩, List.mem_of_getElem? (i := 971) (by decide +kernel), List.mem_of_getElem? (i := 1034) (by decide +kernel), List.mem_of_getElem? (i := 1035) (by decide +kernel)⟩
theorem lw_p21 : lw_okq (⟨"VeneerLoft$Picture", "isIsland", "(I)Z"⟩, 8) := ⟨⟨by decide +kernel, by decide +kernel⟩, List.mem_of_getElem? (i := 971) (by decide +kernel), List.mem_of_getElem? (i := 1045) (by decide +kernel), List.mem_of_getElem? (i := 1046) (by decide +kernel)⟩
theorem lw_p22 : lw_okq (⟨"VeneerLoft", "pictureWithPlace", "(III)LVeneerLoft$Picture;"⟩, 11) := ⟨⟨by decide +kernel, by decide +kernel⟩, List.mem_of_getElem? (i := 42) (by decide +kernel), List.mem_of_getElem? (i := 1056) (by decide +kernel), List.mem_of_getElem? (i := 1057) (by decide +kernel)⟩
theorem lw_p23 : lw_okq (⟨"java/util/ArrayList", "fastRemove", "([Ljava/lang/Object;I)V"⟩, 3) := ⟨⟨by decide +kernel, by decide +kernel⟩, List.mem_of_getElem? (i := 50) (by decide +kernel), List.mem_of_getElem? (i := 1154) (by decide +kernel), List.mem_of_getElem? (i := 1155) (by decide +kernel)⟩
theorem lw_p24 : lw_okq (⟨"VeneerLoftModel", "begins", "()V"⟩, 13) := ⟨⟨by decide +kernel, by decide +kernel⟩, List.mem_of_getElem? (i := 1206) (by decide +kernel), List.mem_of_getElem? (i := 1262) (by decide +kernel), List.mem_of_getElem? (i := 1263) (by decide +kernel)⟩
theorem lw_p25 : lw_okq (⟨"VeneerLoftModel", "fails", "(ZI)Z"⟩, 13) := ⟨⟨by decide +kernel, by decide +kernel⟩, List.mem_of_getElem? (i := 1206) (by decide +kernel), List.mem_of_getElem? (i := 1275) (by decide +kernel), List.mem_of_getElem? (i := 1276) (by decide +kernel)⟩
theorem lw_p26 : lw_okq (⟨"VeneerLoftModel", "noLeaf", "(II)Z"⟩, 13) := ⟨⟨by decide +kernel, by decide +kernel⟩, List.mem_of_getElem? (i := 1206) (by decide +kernel), List.mem_of_getElem? (i := 1371) (by decide +kernel), List.mem_of_getElem? (i := 1372) (by decide +kernel)⟩
theorem lw_p27 : lw_okq (⟨"VeneerLoftModel", "isLeaf", "(II)Z"⟩, 13) := ⟨⟨by decide +kernel, by decide +kernel⟩, List.mem_of_getElem? (i := 1206) (by decide +kernel), List.mem_of_getElem? (i := 1375) (by decide +kernel), List.mem_of_getElem? (i := 1376) (by decide +kernel)⟩
theorem lw_p28 : lw_okq (⟨"VeneerLoftModel", "noPanel", "(I)Z"⟩, 13) := ⟨⟨by decide +kernel, by decide +kernel⟩, List.mem_of_getElem? (i := 1206) (by decide +kernel), List.mem_of_getElem? (i := 1492) (by decide +kernel), List.mem_of_getElem? (i := 1493) (by decide +kernel)⟩
theorem lw_p29 : lw_okq (⟨"VeneerLoftModel", "noRow", "(III)Z"⟩, 13) := ⟨⟨by decide +kernel, by decide +kernel⟩, List.mem_of_getElem? (i := 1206) (by decide +kernel), List.mem_of_getElem? (i := 1496) (by decide +kernel), List.mem_of_getElem? (i := 1497) (by decide +kernel)⟩
theorem lw_p30 : lw_okq (⟨"VeneerLoftModel", "lays", "(LVeneerLoftModel$Panel;LVeneerLoftModel$Laid;)I"⟩, 13) := ⟨⟨by decide +kernel, by decide +kernel⟩, List.mem_of_getElem? (i := 1206) (by decide +kernel), List.mem_of_getElem? (i := 1529) (by decide +kernel), List.mem_of_getElem? (i := 1530) (by decide +kernel)⟩
theorem lw_p31 : lw_okq (⟨"VeneerLoftModel", "noPicture", "(I)Z"⟩, 13) := ⟨⟨by decide +kernel, by decide +kernel⟩, List.mem_of_getElem? (i := 1206) (by decide +kernel), List.mem_of_getElem? (i := 1705) (by decide +kernel), List.mem_of_getElem? (i := 1706) (by decide +kernel)⟩
def lw_privs_2 : List (MethodName × Nat) := [(⟨"VeneerLoft", "layOn", "(LVeneerLoft$Panel;LVeneerLoft$Packet;)I"⟩, 11), (⟨"VeneerLoft", "pictureOf", "(I)LVeneerLoft$Picture;"⟩, 11), (⟨"VeneerLoft$Picture", "countPieces", "()V"⟩, 8), (⟨"VeneerLoft$Picture", "gatherPiece", "(I)I"⟩, 8), (⟨"VeneerLoft$Picture", "enqueue", "(II)I"⟩, 8), (⟨"VeneerLoft$Picture", "isIsland", "(I)Z"⟩, 8), (⟨"VeneerLoft", "pictureWithPlace", "(III)LVeneerLoft$Picture;"⟩, 11), (⟨"java/util/ArrayList", "fastRemove", "([Ljava/lang/Object;I)V"⟩, 3), (⟨"VeneerLoftModel", "begins", "()V"⟩, 13), (⟨"VeneerLoftModel", "fails", "(ZI)Z"⟩, 13), (⟨"VeneerLoftModel", "noLeaf", "(II)Z"⟩, 13), (⟨"VeneerLoftModel", "isLeaf", "(II)Z"⟩, 13), (⟨"VeneerLoftModel", "noPanel", "(I)Z"⟩, 13), (⟨"VeneerLoftModel", "noRow", "(III)Z"⟩, 13), (⟨"VeneerLoftModel", "lays", "(LVeneerLoftModel$Panel;LVeneerLoftModel$Laid;)I"⟩, 13), (⟨"VeneerLoftModel", "noPicture", "(I)Z"⟩, 13)]
theorem lw_r2 : ∀ q ∈ lw_privs_2, lw_okq q := List.forall_mem_cons.mpr ⟨lw_p16, List.forall_mem_cons.mpr ⟨lw_p17, List.forall_mem_cons.mpr ⟨lw_p18, List.forall_mem_cons.mpr ⟨lw_p19, List.forall_mem_cons.mpr ⟨lw_p20, List.forall_mem_cons.mpr ⟨lw_p21, List.forall_mem_cons.mpr ⟨lw_p22, List.forall_mem_cons.mpr ⟨lw_p23, List.forall_mem_cons.mpr ⟨lw_p24, List.forall_mem_cons.mpr ⟨lw_p25, List.forall_mem_cons.mpr ⟨lw_p26, List.forall_mem_cons.mpr ⟨lw_p27, List.forall_mem_cons.mpr ⟨lw_p28, List.forall_mem_cons.mpr ⟨lw_p29, List.forall_mem_cons.mpr ⟨lw_p30, List.forall_mem_cons.mpr ⟨lw_p31, fun _ h => absurd h List.not_mem_nil⟩⟩⟩⟩⟩⟩⟩⟩⟩⟩⟩⟩⟩⟩⟩⟩
theorem lw_p32 : lw_okq (⟨"VeneerLoftModel$Picture", "fills", "([III)V"⟩, 3) := ⟨⟨by decide +kernel, by decide +kernel⟩, List.mem_of_getElem? (i := 1683) (by decide +kernel), List.mem_of_getElem? (i := 1716) (by decide +kernel), List.mem_of_getElem? (i := 1717) (by decide +kernel)⟩
theorem lw_p33 : lw_okq (⟨"VeneerLoftModel", "noPlace", "(III)Z"⟩, 13) := ⟨⟨by decide +kernel, by decide +kernel⟩, List.mem_of_getElem? (i := 1206) (by decide +kernel), List.mem_of_getElem? (i := 1741) (by decide +kernel), List.mem_of_getElem? (i := 1742) (by decide +kernel)⟩
theorem lw_p34 : lw_okq (⟨"VeneerLoftModel", "noCopy", "(II)Z"⟩, 13) := ⟨⟨by decide +kernel, by decide +kernel⟩, List.mem_of_getElem? (i := 1206) (by decide +kernel), List.mem_of_getElem? (i := 1763) (by decide +kernel), List.mem_of_getElem? (i := 1764) (by decide +kernel)⟩
theorem lw_p35 : lw_okq (⟨"VeneerLoftModel", "unused", "()I"⟩, 13) := ⟨⟨by decide +kernel, by decide +kernel⟩, List.mem_of_getElem? (i := 1206) (by decide +kernel), List.mem_of_getElem? (i := 1813) (by decide +kernel), List.mem_of_getElem? (i := 1814) (by decide +kernel)⟩
theorem lw_p36 : lw_okq (⟨"VeneerLoftModel", "leavesIn", "(Z)I"⟩, 13) := ⟨⟨by decide +kernel, by decide +kernel⟩, List.mem_of_getElem? (i := 1206) (by decide +kernel), List.mem_of_getElem? (i := 1842) (by decide +kernel), List.mem_of_getElem? (i := 1843) (by decide +kernel)⟩
def lw_privs_3 : List (MethodName × Nat) := [(⟨"VeneerLoftModel$Picture", "fills", "([III)V"⟩, 3), (⟨"VeneerLoftModel", "noPlace", "(III)Z"⟩, 13), (⟨"VeneerLoftModel", "noCopy", "(II)Z"⟩, 13), (⟨"VeneerLoftModel", "unused", "()I"⟩, 13), (⟨"VeneerLoftModel", "leavesIn", "(Z)I"⟩, 13)]
theorem lw_r3 : ∀ q ∈ lw_privs_3, lw_okq q := List.forall_mem_cons.mpr ⟨lw_p32, List.forall_mem_cons.mpr ⟨lw_p33, List.forall_mem_cons.mpr ⟨lw_p34, List.forall_mem_cons.mpr ⟨lw_p35, List.forall_mem_cons.mpr ⟨lw_p36, fun _ h => absurd h List.not_mem_nil⟩⟩⟩⟩⟩
def lw_privs : List (MethodName × Nat) := lw_privs_1 ++ (lw_privs_2 ++ (lw_privs_3))
def lw_tbl : List Cond := k2_sels lw_privs ++ tables_1
theorem lw_privs_ok : ∀ q ∈ lw_privs, lw_okq q := by
  show ∀ q ∈ lw_privs_1 ++ (lw_privs_2 ++ (lw_privs_3)), lw_okq q
  exact List.forall_mem_append.mpr ⟨lw_r1, List.forall_mem_append.mpr ⟨lw_r2, lw_r3⟩⟩
/-- the streams that the claim lets the run draw from -/
abbrev lw_cs : List Choice := [Jvm.Choice.named "NaN.bits"]
theorem lw_bits : nanBits ∈ lw_cs := by first | decide | exact List.mem_cons_self | simp [lw_cs, nanBits]
end
section
/-! ===== BEGIN words of one list among another's, by their places ===== -/
theorem goodIn_r {big : List Cond} (ws : List Cond) (ps : List Nat) (hp : ws = ps.filterMap (fun i => big[i]?)) (h : ws.all goodWord = true) : GoodIn big ws := by
  intro w hw
  have h1 := List.all_eq_true.mp h w hw
  rw [hp] at hw
  obtain ⟨i, -, hi⟩ := List.mem_filterMap.mp hw
  have hm : w ∈ big := by first | exact List.mem_of_getElem? hi | exact List.getElem?_mem hi
  exact ⟨hm, good_of_word h1⟩
theorem goodIn_app {big a b : List Cond} (ha : GoodIn big a) (hb : GoodIn big b) : GoodIn big (a ++ b) := fun w h => (List.mem_append.mp h).elim (ha w) (hb w)
theorem goodIn_ca {big a b : List Cond} {c : Cond} (ha : GoodIn big (c :: a)) (hb : GoodIn big b) : GoodIn big (c :: (a ++ b)) := fun w h => (List.mem_cons.mp h).elim (fun e => ha w (List.mem_cons.mpr (Or.inl e))) (fun h => (List.mem_append.mp h).elim (fun h => ha w (List.mem_cons.mpr (Or.inr h))) (hb w))
theorem goodIn_sub {big ws : List Cond} (hm : ∀ w ∈ ws, w ∈ big) (h : ws.all goodWord = true) : GoodIn big ws := fun w hw => ⟨hm w hw, good_of_word (List.all_eq_true.mp h w hw)⟩
/-! ===== END ===== -/

/-! ===== BEGIN exceptions that leave a method, and their catching by the caller (launches without stack traces) ===== -/
section VXA
/-! The laws vx_back, vx_callV, vx_callS, vx_callSW, vx_throw0, vx_throwS follow proofs of the library, with one case more: JvmDerived/Free/Laws.lean (Back.of_free), Shelf42/LK1.lean (callV, callS), Shelf/KitTraced.lean (throwNew0V, throwNewS). -/
/-- where a method has thrown q: the class by its name, the cell, what was written, the world -/
def vx_T (XC : String → State → State → Prop) (st : State) (q : Addr) (t : State) (mc ms : Nat) (free : Addr → Prop) : Prop :=
  ∃ (E : String) (ce : Cell) (L : List Loc), XC E st t ∧ t.heap[q]? = some ce ∧ ce.vm = .none ∧ st.vm.findClass E = some ce.cls ∧ st.WarmedH t.vm ∧ st.sameButNew ({ t with vm := st.vm } : State) L mc ms ∧ ∀ z ∈ L, free z.base
def vx_Q (Qc : Array Value → State → Outcome → State → Prop) (XC : String → State → State → Prop) (mc ms : Nat) (free : Addr → Prop) : Array Value → State → Outcome → State → Prop := fun a st o t =>
  (Qc a st o t ∧ ∃ L, FrameEnd st o t L mc ms ∧ ∀ q ∈ L, free q.base) ∨ ∃ q, o = .threw q ∧ vx_T XC st q t mc ms free
/-- a callee that returns or throws -/
def vx_Met (l : Launch) (y : MethodName) (ws : List Cond) (rm : Room) (Pc : Array Value → State → Prop) (Qc : Array Value → State → Outcome → State → Prop) (XC : String → State → State → Prop) (mc ms : Nat) (free : Addr → Prop) : Prop :=
  MetFree l y (headSpec ws rm) Pc (fun _ _ _ _ _ => True) (vx_Q Qc XC mc ms free)
def vx_Post (XC : String → State → State → Prop) (mc ms : Nat) (free : Addr → Prop) : Pt → Array Value → Addr → Pt → Prop := fun A a q B =>
  ∃ (g : JFrame) (mk : MethodId) (t : State) (L : List Loc) (E : String) (ce : Cell), B.U.heap = t.heap ∧ B.U.vm = t.vm ∧ XC E (A.U.calling g mk a) t ∧ t.heap[q]? = some ce ∧ ce.vm = .none ∧ A.U.vm.findClass E = some ce.cls ∧ B.locs = A.locs ++ L ∧ (∀ z ∈ L, free z.base) ∧ B.cells = A.cells + mc ∧ B.slots = A.slots + ms
def vx_Back (l : Launch) (R : Room) (p : Program) (e : Env) (below : List Frame) (s : State) (sargs : Array Value) (y : MethodName) (len W9 : Nat)
    (Pre : Pt → Array Value → Prop) (Post : Pt → Array Value → Option Value → Pt → Prop) (PostX : Pt → Array Value → Addr → Pt → Prop) : Prop :=
  ∀ (m : MethodId) (meth : Method) (c : Code) (A : Pt) (g : JFrame) (ig : Instr) (mk : MethodId) (a : Array Value),
    Stand p l e R s m sargs below meth c A.U A.locs A.cells A.slots → g.method = m → g.locals.size = c.maxLocals → decode c.code g.pc = .ok (ig, len) →
    2 * g.monitorRoom + (g.stack.map fun v => v.category).sum ≤ W9 → A.U.methodNamed? y = some mk → Pre A a →
    (∃ (v : Option Value) (B : Pt), Stand p l e R s m sargs below meth c B.U B.locs B.cells B.slots ∧ Post A a v B ∧
      Steps p.tables e below (doInvoke e (A.U.setTop g) [] mk a).1 (B.U.setTop { g with pc := g.pc + len, stack := v.toList ++ g.stack })) ∨
    (∃ (q : Addr) (B : Pt), Stand p l e R s m sargs below meth c B.U B.locs B.cells B.slots ∧ PostX A a q B ∧
      Steps p.tables e below (doInvoke e (A.U.setTop g) [] mk a).1 ((B.U.setTop g).pushFrame (.throwing q)))
section Payer
variable {l : Launch} {R : Room} {p : Program} {e : Env} {below : List Frame} {s : State} {sargs : Array Value} {y : MethodName} {len W9 : Nat}
theorem vx_back {ws : List Cond} {rm : Room} {Pc : Array Value → State → Prop} {Qc : Array Value → State → Outcome → State → Prop} {XC : String → State → State → Prop} {mc ms : Nat} {free : Addr → Prop} {bytes : ByteArray} {maxL : Nat} {ret : Option FieldType}
    (hM : vx_Met l y ws rm Pc Qc XC mc ms free) (hblind : FrameBlind Pc) (hrc : rm.cells = mc) (hrs : rm.slots = ms)
    (hframes : rm.frames + 1 ≤ R.frames) (hlocals : W9 + (maxL + 11) + rm.locals ≤ R.locals)
    (hws : ∀ w ∈ ws, ∀ a' U, s.WarmedH U.vm → w.before a' U = true) (hcode : Cond.code y bytes maxL ret ∈ ws) (hinit : ∀ a' U, s.WarmedH U.vm → (Cond.initialized y.cls).before a' U = true) :
    vx_Back l R p e below s sargs y len W9 (PreOf R mc ms Pc) (PostOf Qc mc ms free) (vx_Post XC mc ms free) := by
  intro m meth c A g ig mk a X hg hsize hdg hW hn hp
  have h1 : (headSpec ws rm).pre.before a A.U = true := atoms_intro fun w hw => hws w hw _ _ X.warmed
  have h2 : (Cond.code y bytes maxL ret).before a A.U = true := hws _ hcode _ _ X.warmed
  have h3 : (Cond.initialized y.cls).before a A.U = true := hinit _ _ X.warmed
  have h4 : A.cells + (headSpec ws rm).room.cells ≤ R.cells := by rw [show (headSpec ws rm).room.cells = mc from hrc]; exact hp.1
  have h5 : A.slots + (headSpec ws rm).room.slots ≤ R.slots := by rw [show (headSpec ws rm).room.slots = ms from hrs]; exact hp.2.1
  have hPc : Pc a (A.U.calling g mk a) := hblind _ _ _ _ hp.2.2
  obtain ⟨U, Ls, c0, s0⟩ := A
  dsimp only [Pt.U, Pt.locs, Pt.cells, Pt.slots] at h1 h2 h3 h4 h5 X hn hPc ⊢
  obtain ⟨methY, cY, hmY, hcY, -, hlY, -, -, -, -⟩ := Cond.code_spec hn h2
  obtain ⟨kY, hkY, -⟩ := className_of_methodNamed hn
  have hinitY : kY.init = .initialized := Cond.initialized_spec (findClass_of_methodNamed hn) hkY h3
  have h : At U g.method c below := by rw [hg]; exact X.here
  have hlocals9 : W9 + (maxL + 11) + (headSpec ws rm).room.locals ≤ R.locals := hlocals
  have happ : (headSpec ws rm).appliesLoose y e.platform (U.calling g mk a) = true :=
    Spec.appliesLoose_calling (g := g) h hdg hn hkY hinitY
      (X.room_calling (g := g) (R' := (headSpec ws rm).room) hsize hmY hcY hframes (by rw [hlY]; omega) h4 h5) h1
  obtain ⟨mid, hmid⟩ := h.above
  have hfr : (U.setTop g).frames = (.java g :: mid) ++ below := by rw [State.frames_setTop' g h.top, hmid]; rfl
  obtain ⟨o, s₂, hsteps, -, hend, hq⟩ := Steps.callFree hM p X.admits X.cas X.clock (acts := []) hfr happ hPc trivial
  have hq' : vx_Q Qc XC mc ms free a (U.calling g mk a) o s₂ := hq
  rw [State.frames_setTop' g h.top] at hend
  obtain ⟨g₀, hg0⟩ := Option.isSome_iff_exists.mp h.top
  obtain ⟨r, hr⟩ := State.topJava?_eq_some.mp hg0
  have hr' : (({ U with heap := s₂.heap, slotsUsed := s₂.slotsUsed } : State).setVm s₂.vm).frames = .java g₀ :: r := hr
  rcases hq' with ⟨hqc, L, hfe, hL⟩ | ⟨q, rfl, E, ce, L, hx, hce, hcv, hcl, hW₂, hsm, hL⟩
  · obtain ⟨⟨v, rfl⟩, hW₂, e2, q2, q3, q4, q5, q6⟩ := id hfe
    have e3 : s₂ = ({ (U.calling g mk a).setFrames s₂.frames with heap := s₂.heap, slotsUsed := s₂.slotsUsed } : State).setVm s₂.vm := by
      have : s₂ = ({ s₂ with vm := (U.calling g mk a).vm } : State).setVm s₂.vm := rfl
      rw [e2] at this
      exact this
    obtain ⟨c₂, i₂, len₂, hc₂, hd₂, hf₂⟩ := hend
    have hW' : U.WarmedH s₂.vm := hW₂
    have hcc : c₂ = c := by
      have h1 : s₂.code? g.method = U.code? g.method := by
        rw [State.code?_eq, State.code?_eq, hW'.alike.method?]
      exact Option.some.inj (hc₂.symm.trans (h1.trans h.code))
    subst hcc
    have hlen : len₂ = len := by rw [hdg] at hd₂; cases hd₂; rfl
    subst hlen
    have hs₂ : s₂ = (({ U with heap := s₂.heap, slotsUsed := s₂.slotsUsed } : State).setVm s₂.vm).setTop { g with pc := g.pc + len₂, stack := v.toList ++ g.stack } := by
      refine e3.trans ?_
      rw [hf₂, State.calling_eq h.top, State.setFrames_setFrames, State.setTop_of_frames _ hr', hr]
      rfl
    have hsame : U.sameButNew ({ U with heap := s₂.heap, slotsUsed := s₂.slotsUsed } : State) L mc ms := by
      refine ⟨?_, q2, q3, q4, q5, q6⟩
      obtain ⟨t, ht, -⟩ := State.frames_cons hr
      show ({ U with heap := s₂.heap, slotsUsed := s₂.slotsUsed } : State) = { U.setFrames U.frames with heap := s₂.heap, slotsUsed := s₂.slotsUsed }
      rw [State.setFrames_self ht]
    subst hg
    refine Or.inl ⟨v, ⟨(({ U with heap := s₂.heap, slotsUsed := s₂.slotsUsed } : State).setVm s₂.vm), Ls ++ L, c0 + mc, s0 + ms⟩,
      ⟨X.admits, X.cas, X.clock, X.frames, X.room, X.hears, X.method, X.code, (X.here.setHeapUsed s₂.heap s₂.slotsUsed).setVm hW'.alike, X.tail, State.WarmedH.trans X.warmed hW', X.limits, X.bytes, X.same.trans (hsame.setVm s.vm)⟩,
      ⟨g, mk, s₂, L, rfl, rfl, hqc, rfl, hL, rfl, rfl⟩, ?_⟩
    show Steps p.tables e below _ ((({ U with heap := s₂.heap, slotsUsed := s₂.slotsUsed } : State).setVm s₂.vm).setTop { g with pc := g.pc + len₂, stack := v.toList ++ g.stack })
    rw [← hs₂]
    exact hsteps
  · obtain ⟨e2, q2, q3, q4, q5, q6⟩ := id hsm
    have e3 : s₂ = ({ (U.calling g mk a).setFrames s₂.frames with heap := s₂.heap, slotsUsed := s₂.slotsUsed } : State).setVm s₂.vm := by
      have : s₂ = ({ s₂ with vm := (U.calling g mk a).vm } : State).setVm s₂.vm := rfl
      rw [e2] at this
      exact this
    have hf₂ : s₂.frames = .throwing q :: .java g :: U.frames.tail := hend
    have hW' : U.WarmedH s₂.vm := hW₂
    have hs₂ : s₂ = ((({ U with heap := s₂.heap, slotsUsed := s₂.slotsUsed } : State).setVm s₂.vm).setTop g).pushFrame (.throwing q) := by
      refine e3.trans ?_
      rw [hf₂, State.calling_eq h.top, State.setFrames_setFrames, State.pushFrame, State.frames_setTop _ hr', State.setTop_of_frames _ hr', State.setFrames_setFrames, hr]
      rfl
    have hsame : U.sameButNew ({ U with heap := s₂.heap, slotsUsed := s₂.slotsUsed } : State) L mc ms := by
      refine ⟨?_, q2, q3, q4, q5, q6⟩
      obtain ⟨t, ht, -⟩ := State.frames_cons hr
      show ({ U with heap := s₂.heap, slotsUsed := s₂.slotsUsed } : State) = { U.setFrames U.frames with heap := s₂.heap, slotsUsed := s₂.slotsUsed }
      rw [State.setFrames_self ht]
    subst hg
    refine Or.inr ⟨q, ⟨(({ U with heap := s₂.heap, slotsUsed := s₂.slotsUsed } : State).setVm s₂.vm), Ls ++ L, c0 + mc, s0 + ms⟩,
      ⟨X.admits, X.cas, X.clock, X.frames, X.room, X.hears, X.method, X.code, (X.here.setHeapUsed s₂.heap s₂.slotsUsed).setVm hW'.alike, X.tail, State.WarmedH.trans X.warmed hW', X.limits, X.bytes, X.same.trans (hsame.setVm s.vm)⟩,
      ⟨g, mk, s₂, L, E, ce, rfl, rfl, hx, hce, hcv, hcl, rfl, hL, rfl, rfl⟩, ?_⟩
    show Steps p.tables e below _ (((({ U with heap := s₂.heap, slotsUsed := s₂.slotsUsed } : State).setVm s₂.vm).setTop g).pushFrame (.throwing q))
    rw [← hs₂]
    exact hsteps
end Payer
section Calls
variable {p : Program} {l : Launch} {e : Env} {R : Room} {s : State} {m : MethodId} {args : Array Value} {below : List Frame} {meth : Method} {c : Code} {T : State} {locs : List Loc} {cells slots : Nat}
theorem vx_callV (X : Stand p l e R s m args below meth c T locs cells slots) (hexec : p.tables.exec = Jvm.exec) {own C : String} {index : Nat} {y : MethodName} {bytes : ByteArray} {maxL : Nat} {ret : Option FieldType}
    (hown : s.vm.findClass own = some m.cls) (hlink : (Cond.methodLink own index y).before args s = true) (hinst : (Cond.instanceMethod y).before args s = true) (hsel : (Cond.selects C y y).before args s = true)
    (hcode : (Cond.code y bytes maxL ret).before args s = true) (hy : y.cls ≠ "java/lang/invoke/MethodHandle" ∧ y.cls ≠ "java/lang/invoke/VarHandle")
    {W9 : Nat} {Pre : Pt → Array Value → Prop} {Post : Pt → Array Value → Option Value → Pt → Prop} {PostX : Pt → Array Value → Addr → Pt → Prop} (hK : vx_Back l R p e below s args y 3 W9 Pre Post PostX)
    {b : Addr} {cellB : Cell} (hcell : T.heap[b]? = some cellB) (hobj : cellB.vm.isStatics = false) (hcls : s.vm.findClass C = some cellB.cls)
    {g : JFrame} (hg : g.method = m) (hsize : g.locals.size = c.maxLocals) {argsL rest : List Value} (hlen : ∀ sig, parseMethodDescriptor y.desc = some sig → argsL.length = sig.parameters.length)
    (hstack : g.stack = argsL.reverse ++ .ref b :: rest) (hW : 2 * g.monitorRoom + (rest.map fun v => v.category).sum ≤ W9) (hdg : decode c.code g.pc = .ok (.invokevirtual index, 3))
    (hpre : ∀ vm₁, s.WarmedH vm₁ → Pre ⟨T.setVm vm₁, locs, cells, slots⟩ (Value.ref b :: argsL).toArray) :
    (∃ (v : Option Value) (vm₁ : Vm) (B : Pt), s.WarmedH vm₁ ∧ Stand p l e R s m args below meth c B.U B.locs B.cells B.slots ∧ Post ⟨T.setVm vm₁, locs, cells, slots⟩ (Value.ref b :: argsL).toArray v B ∧
      ∀ target, Steps p.tables e below (B.U.setTop { g with pc := g.pc + 3, stack := v.toList ++ rest }) target → Steps p.tables e below (T.setTop g) target) ∨
    (∃ (q : Addr) (vm₁ : Vm) (B : Pt), s.WarmedH vm₁ ∧ Stand p l e R s m args below meth c B.U B.locs B.cells B.slots ∧ PostX ⟨T.setVm vm₁, locs, cells, slots⟩ (Value.ref b :: argsL).toArray q B ∧
      Steps p.tables e below (T.setTop g) ((B.U.setTop { g with stack := rest }).pushFrame (.throwing q))) := by
  obtain ⟨mk, methM, hnamed, hmethM, hstM, habM⟩ := Cond.instanceMethod_spec hinst
  obtain ⟨methM', cM, hmethM', -, -, -, -, -, -, hsigM⟩ := Cond.code_spec hnamed hcode
  cases hmethM.symm.trans hmethM'
  obtain ⟨c2, r2, m2, q1, q2, q3, q4, kP, hkP, hkPi⟩ := Cond.selects_spec hsel
  cases hcls.symm.trans q1
  cases (State.methodFound?_of_named hnamed hy).symm.trans q2
  cases hnamed.symm.trans q3
  have hselP : selectMethod e.platform s.vm cellB.cls mk = .method mk := by rw [Launch.admits_selectMethod X.admits]; exact q4
  obtain ⟨vm₁, X₁, hstep₁⟩ := X.invokevirtual hexec hown hlink hnamed hmethM hstM hkP hkPi hy (a := b) (cell := cellB) hcell
    (fun z h => by rw [h] at hobj; cases hobj) hselP hmethM habM hkP hkPi (g := g) hg (argsL := argsL) (rest := rest) (hlen _ hsigM) hstack hdg
  rcases hK m meth c ⟨T.setVm vm₁, locs, cells, slots⟩ { g with stack := rest } (.invokevirtual index) mk (Value.ref b :: argsL).toArray X₁ hg hsize hdg hW (X₁.named hnamed) (hpre vm₁ X₁.warmed) with ⟨v, B, X', hpost, hsteps⟩ | ⟨q, B, X', hpost, hsteps⟩
  · exact Or.inl ⟨v, vm₁, B, X₁.warmed, X', hpost, fun target h => hstep₁ _ fun acts => by rw [doInvoke_state]; exact hsteps.trans h⟩
  · exact Or.inr ⟨q, vm₁, B, X₁.warmed, X', hpost, hstep₁ _ fun acts => by rw [doInvoke_state]; exact hsteps⟩
theorem vx_callS (X : Stand p l e R s m args below meth c T locs cells slots) (hexec : p.tables.exec = Jvm.exec) {own : String} {index : Nat} {y : MethodName} {bytes : ByteArray} {maxL : Nat} {ret : Option FieldType}
    (hown : s.vm.findClass own = some m.cls) (hlink : (Cond.methodLink own index y).before args s = true) (hstat : (Cond.static y).before args s = true) (hinit : (Cond.initialized y.cls).before args s = true)
    (hcode : (Cond.code y bytes maxL ret).before args s = true) (hy : y.cls ≠ "java/lang/invoke/MethodHandle" ∧ y.cls ≠ "java/lang/invoke/VarHandle")
    {W9 : Nat} {Pre : Pt → Array Value → Prop} {Post : Pt → Array Value → Option Value → Pt → Prop} {PostX : Pt → Array Value → Addr → Pt → Prop} (hK : vx_Back l R p e below s args y 3 W9 Pre Post PostX)
    {g : JFrame} (hg : g.method = m) (hsize : g.locals.size = c.maxLocals) {argsL rest : List Value} (hlen : ∀ sig, parseMethodDescriptor y.desc = some sig → argsL.length = sig.parameters.length)
    (hstack : g.stack = argsL.reverse ++ rest) (hW : 2 * g.monitorRoom + (rest.map fun v => v.category).sum ≤ W9) (hdg : decode c.code g.pc = .ok (.invokestatic index, 3))
    (hpre : ∀ vm₁, s.WarmedH vm₁ → Pre ⟨T.setVm vm₁, locs, cells, slots⟩ argsL.toArray) :
    (∃ (v : Option Value) (vm₁ : Vm) (B : Pt), s.WarmedH vm₁ ∧ Stand p l e R s m args below meth c B.U B.locs B.cells B.slots ∧ Post ⟨T.setVm vm₁, locs, cells, slots⟩ argsL.toArray v B ∧
      ∀ target, Steps p.tables e below (B.U.setTop { g with pc := g.pc + 3, stack := v.toList ++ rest }) target → Steps p.tables e below (T.setTop g) target) ∨
    (∃ (q : Addr) (vm₁ : Vm) (B : Pt), s.WarmedH vm₁ ∧ Stand p l e R s m args below meth c B.U B.locs B.cells B.slots ∧ PostX ⟨T.setVm vm₁, locs, cells, slots⟩ argsL.toArray q B ∧
      Steps p.tables e below (T.setTop g) ((B.U.setTop { g with stack := rest }).pushFrame (.throwing q))) := by
  obtain ⟨mk, hnamed⟩ := Cond.code_named hcode
  obtain ⟨methM, cM, hmethM, -, -, -, -, -, -, hsigM⟩ := Cond.code_spec hnamed hcode
  have hstatic : methM.isStatic = true := Cond.static_spec hnamed hmethM hstat
  obtain ⟨kP, hkP, -⟩ := className_of_methodNamed hnamed
  have hinitP : kP.init = .initialized := Cond.initialized_spec (findClass_of_methodNamed hnamed) hkP hinit
  obtain ⟨vm₁, X₁, hstep₁⟩ := X.invokestatic hexec hown hlink hnamed hmethM hstatic hkP hinitP hy (g := g) hg (argsL := argsL) (rest := rest) (hlen _ hsigM) hstack hdg
  rcases hK m meth c ⟨T.setVm vm₁, locs, cells, slots⟩ { g with stack := rest } (.invokestatic index) mk argsL.toArray X₁ hg hsize hdg hW (X₁.named hnamed) (hpre vm₁ X₁.warmed) with ⟨v, B, X', hpost, hsteps⟩ | ⟨q, B, X', hpost, hsteps⟩
  · exact Or.inl ⟨v, vm₁, B, X₁.warmed, X', hpost, fun target h => hstep₁ _ fun acts => by rw [doInvoke_state]; exact hsteps.trans h⟩
  · exact Or.inr ⟨q, vm₁, B, X₁.warmed, X', hpost, hstep₁ _ fun acts => by rw [doInvoke_state]; exact hsteps⟩
end Calls
theorem vx_cls {s : State} {T : State} {vm₁ : Vm} {E : String} {k : ClassId} (hW : s.WarmedH vm₁) (h : (T.setVm vm₁).vm.findClass E = some k) : s.vm.findClass E = some k := by
  have h1 : vm₁.findClass E = some k := h
  rw [hW.alike.findClass] at h1
  exact h1
/-- the method's frame g, with q thrown over it -/
def vx_W (p : Program) (l : Launch) (e : Env) (R : Room) (s : State) (m : MethodId) (args : Array Value) (below : List Frame) (meth : Method) (c : Code) (H : Heap) (locs : List Loc) (cells slots : Nat) (Q : State → Prop) (g : JFrame) (q : Addr) : Prop :=
  ∀ T : State, T.heap = H → Stand p l e R s m args below meth c T locs cells slots → ∃ t, Steps p.tables e below ((T.setTop g).pushFrame (.throwing q)) t ∧ Q t
def vx_Run (p : Program) (l : Launch) (e : Env) (R : Room) (s : State) (m : MethodId) (args : Array Value) (below : List Frame) (meth : Method) (c : Code) (H : Heap) (locs : List Loc) (cells slots mc ms : Nat) (g : JFrame) (rest : List Value) (Qa : State → Outcome → State → Prop) (XC : String → State → State → Prop) (free : Addr → Prop) : Prop :=
  ∀ T : State, T.heap = H → Stand p l e R s m args below meth c T locs cells slots →
    (∃ (v : Option Value) (st₀ t T' : State) (L : List Loc), st₀.heap = H ∧ Stand p l e R s m args below meth c T' (locs ++ L) (cells + mc) (slots + ms) ∧ (∀ q ∈ L, free q.base) ∧ T'.heap = t.heap ∧ T'.vm = t.vm ∧ Qa st₀ (.returned v) t ∧
      Goes p e below T g T' { g with pc := g.pc + 3, stack := v.toList ++ rest }) ∨
    (∃ (q : Addr) (st₀ t T' : State) (L : List Loc) (E : String) (ce : Cell), st₀.heap = H ∧ Stand p l e R s m args below meth c T' (locs ++ L) (cells + mc) (slots + ms) ∧ (∀ z ∈ L, free z.base) ∧ T'.heap = t.heap ∧ T'.vm = t.vm ∧ XC E st₀ t ∧ t.heap[q]? = some ce ∧ ce.vm = .none ∧ s.vm.findClass E = some ce.cls ∧
      Steps p.tables e below (T.setTop g) ((T'.setTop { g with stack := rest }).pushFrame (.throwing q)))
def vx_X {S : Type} (px : S → Prop) (B : String → S → State → Prop) (A : Nat → Prop) : String → State → State → Prop := fun E st t => ∃ u : S, px u ∧ B E u t ∧ va_F A st t
section Runs
variable {p : Program} {l : Launch} {e : Env} {R : Room} {s : State} {m : MethodId} {args : Array Value} {below : List Frame} {meth : Method} {c : Code} {H : Heap} {locs : List Loc} {cells slots : Nat}
variable {y : MethodName} {bytes cc : ByteArray} {maxL nL mc ms n index : Nat} {ret : Option FieldType} {ws : List Cond} {rm : Room} {Pc : Array Value → State → Prop} {Qc : Array Value → State → Outcome → State → Prop} {XC : String → State → State → Prop} {free : Addr → Prop} {Ts : List Cond} {own C : String} {b : Addr} {As rest : List Value} {g : JFrame}
theorem vx_callBack (cb : CallB R s args own index y bytes maxL ret ws rm mc ms n) (hM : vx_Met l y ws rm Pc Qc XC mc ms free) (hbl : FrameBlind Pc) : vx_Back l R p e below s args y 3 8 (PreOf R mc ms Pc) (PostOf Qc mc ms free) (vx_Post XC mc ms free) := by
  obtain ⟨hrc, hrs, hfr, hlo, hws, hcw, -, hini, -⟩ := cb
  exact vx_back (bytes := bytes) (maxL := maxL) (ret := ret) hM hbl hrc hrs hfr hlo hws hcw (fun a' U hW => word_at hW (Or.inl (by first | rfl | simp [Cond.onTables, Cond.keeps, Cond.steady])) hini)
theorem vx_runV (S : CallFix p m c cc nL s args Ts own) (hM : vx_Met l y ws rm Pc Qc XC mc ms free) (cw : CallW R s args own C index y bytes maxL ret ws rm mc ms n) (hp : PreV s H C b Pc As)
    (hg : g.method = m) (hn : As.length = n) (hsize : g.locals.size = nL) (hstack : g.stack = As.reverse ++ .ref b :: rest) (hW : 2 * g.monitorRoom + (rest.map fun v => v.category).sum ≤ 8) (hdg : decode cc g.pc = .ok (.invokevirtual index, 3)) (hf : cells + mc ≤ R.cells ∧ slots + ms ≤ R.slots) :
    vx_Run p l e R s m args below meth c H locs cells slots mc ms g rest (Qc (Value.ref b :: As).toArray) XC free := by
  have hK : vx_Back l R p e below s args y 3 8 (PreOf R mc ms Pc) (PostOf Qc mc ms free) (vx_Post XC mc ms free) := vx_callBack cw.1 hM hp.1
  obtain ⟨⟨-, -, -, -, -, -, hcode, -, hy, hlen, hl⟩, hin, hse⟩ := cw
  obtain ⟨hx, hb, hml, ho, -⟩ := S
  obtain ⟨-, ⟨cellB, hcB, hoB, hclB⟩, hPc⟩ := hp
  intro T hT X
  rcases vx_callV X hx (C := C) (bytes := bytes) (maxL := maxL) (ret := ret) ho hl hin hse hcode hy hK (by rw [hT]; exact hcB) hoB hclB hg (hsize.trans hml.symm) (argsL := As) (rest := rest) (fun sig h => hn.trans (hlen sig h)) hstack hW (by rw [hb]; exact hdg)
    (fun vm₁ hW₁ => ⟨hf.1, hf.2, hPc (T.setVm vm₁) hT hW₁⟩) with ⟨v, vm₁, ⟨U', l2, c2, s2⟩, hW₁, X', ⟨g', mk, t, L, e1, e2, hq, h1, hL, h2, h3⟩, st⟩ | ⟨q, vm₁, ⟨U', l2, c2, s2⟩, hW₁, X', ⟨g', mk, t, L, E, ce, e1, e2, hq, hce, hcv, hcl, h1, hL, h2, h3⟩, st⟩
  · dsimp only [Pt.U, Pt.locs, Pt.cells, Pt.slots] at X' e1 e2 h1 h2 h3 st
    subst h1; subst h2; subst h3
    exact Or.inl ⟨v, (T.setVm vm₁).calling g' mk (Value.ref b :: As).toArray, t, U', L, hT, X', hL, e1, e2, hq, st⟩
  · dsimp only [Pt.U, Pt.locs, Pt.cells, Pt.slots] at X' e1 e2 h1 h2 h3 st hcl
    subst h1; subst h2; subst h3
    exact Or.inr ⟨q, (T.setVm vm₁).calling g' mk (Value.ref b :: As).toArray, t, U', L, E, ce, hT, X', hL, e1, e2, hq, hce, hcv, vx_cls hW₁ hcl, st⟩
theorem vx_runS (S : CallFix p m c cc nL s args Ts own) (hM : vx_Met l y ws rm Pc Qc XC mc ms free) (cw : CallB R s args own index y bytes maxL ret ws rm mc ms n ∧ (Cond.static y).before args s = true) (hp : PreS s H Pc As)
    (hg : g.method = m) (hn : As.length = n) (hsize : g.locals.size = nL) (hstack : g.stack = As.reverse ++ rest) (hW : 2 * g.monitorRoom + (rest.map fun v => v.category).sum ≤ 8) (hdg : decode cc g.pc = .ok (.invokestatic index, 3)) (hf : cells + mc ≤ R.cells ∧ slots + ms ≤ R.slots) :
    vx_Run p l e R s m args below meth c H locs cells slots mc ms g rest (Qc As.toArray) XC free := by
  have hK : vx_Back l R p e below s args y 3 8 (PreOf R mc ms Pc) (PostOf Qc mc ms free) (vx_Post XC mc ms free) := vx_callBack cw.1 hM hp.1
  obtain ⟨⟨-, -, -, -, -, -, hcode, hini, hy, hlen, hl⟩, hstt⟩ := cw
  obtain ⟨hx, hb, hml, ho, -⟩ := S
  intro T hT X
  rcases vx_callS X hx (bytes := bytes) (maxL := maxL) (ret := ret) ho hl hstt hini hcode hy hK hg (hsize.trans hml.symm) (argsL := As) (rest := rest) (fun sig h => hn.trans (hlen sig h)) hstack hW (by rw [hb]; exact hdg)
    (fun vm₁ hW₁ => ⟨hf.1, hf.2, hp.2 (T.setVm vm₁) hT hW₁⟩) with ⟨v, vm₁, ⟨U', l2, c2, s2⟩, hW₁, X', ⟨g', mk, t, L, e1, e2, hq, h1, hL, h2, h3⟩, st⟩ | ⟨q, vm₁, ⟨U', l2, c2, s2⟩, hW₁, X', ⟨g', mk, t, L, E, ce, e1, e2, hq, hce, hcv, hcl, h1, hL, h2, h3⟩, st⟩
  · dsimp only [Pt.U, Pt.locs, Pt.cells, Pt.slots] at X' e1 e2 h1 h2 h3 st
    subst h1; subst h2; subst h3
    exact Or.inl ⟨v, (T.setVm vm₁).calling g' mk As.toArray, t, U', L, hT, X', hL, e1, e2, hq, st⟩
  · dsimp only [Pt.U, Pt.locs, Pt.cells, Pt.slots] at X' e1 e2 h1 h2 h3 st hcl
    subst h1; subst h2; subst h3
    exact Or.inr ⟨q, (T.setVm vm₁).calling g' mk As.toArray, t, U', L, E, ce, hT, X', hL, e1, e2, hq, hce, hcv, vx_cls hW₁ hcl, st⟩
end Runs
section Rows
variable {p : Program} {l : Launch} {e : Env} {R : Room} {s : State} {m : MethodId} {args : Array Value} {below : List Frame} {meth : Method} {c : Code} {H : Heap} {locs : List Loc} {cells slots : Nat} {Q : State → Prop}
variable {mc ms : Nat} {free : Addr → Prop} {A0 A1 : Nat → Prop} {H0 : Heap} {a : Array Value} {pc : Nat} {ls : Array Slot} {st0 rest : List Value}
theorem vx_keep {st₀ t T' : State} {L : List Loc} (h0 : st₀.heap = H) (e1 : T'.heap = t.heap) (hS : va_S A0 H0 H locs) (hA : ∀ q, q < H.size → A1 q → A0 q) (hf : ∀ q, free q → A0 q) (hL : ∀ q ∈ L, free q.base) (hF : va_F A1 st₀ t) :
    H.size ≤ T'.heap.size ∧ (∀ q : Nat, q < H.size → ¬ A1 q → T'.heap[q]? = H[q]?) ∧ va_S A0 H0 T'.heap (locs ++ L) := by
  obtain ⟨hz, hk⟩ := hF
  rw [h0] at hz hk
  exact ⟨by rw [e1]; exact hz, fun q h1 h2 => by rw [e1]; exact hk q h1 h2,
    ⟨Nat.le_trans hS.1 (by rw [e1]; exact hz), fun q h1 h2 => by rw [e1, hk q (Nat.lt_of_lt_of_le h1 hS.1) (fun z => h2 (hA q (Nat.lt_of_lt_of_le h1 hS.1) z))]; exact hS.2.1 q h1 h2, fun q hq => by
      rcases List.mem_append.mp hq with h | h
      · exact hS.2.2 q h
      · exact hf _ (hL q h)⟩⟩
theorem vx_calli {S SX : Type} {post : Int32 → S → Prop} {px : SX → Prop} {B : S → State → Prop} {BX : String → SX → State → Prop} {AX : Nat → Prop} (hr : vx_Run p l e R s m args below meth c H locs cells slots mc ms (F0 m pc ls st0) rest (va_Qi post B A1 a) (vx_X px BX AX) free) (hS : va_S A0 H0 H locs) (hA : ∀ q, q < H.size → A1 q → A0 q) (hf : ∀ q, free q → A0 q) (hAX : ∀ q, q < H.size → AX q → A0 q)
    (kx : ∀ (E : String) (ce : Cell) (q9 : Addr) (u : SX) (t : State) (H1 : Heap) (locs1 : List Loc), t.heap = H1 → s.vm.Alike t.vm → px u → BX E u t → H.size ≤ H1.size → (∀ q : Nat, q < H.size → ¬ AX q → H1[q]? = H[q]?) → va_S A0 H0 H1 locs1 → H1[q9]? = some ce → ce.vm = .none → s.vm.findClass E = some ce.cls → vx_W p l e R s m args below meth c H1 locs1 (cells + mc) (slots + ms) Q (F0 m pc ls rest) q9)
    (kk : ∀ (r : Int32) (u : S) (t : State) (H1 : Heap) (locs1 : List Loc), t.heap = H1 → s.vm.Alike t.vm → post r u → B u t → H.size ≤ H1.size → (∀ q : Nat, q < H.size → ¬ A1 q → H1[q]? = H[q]?) → va_S A0 H0 H1 locs1 → W p l e R s m args below meth c H1 locs1 (cells + mc) (slots + ms) Q (F0 m (pc + 3) ls (.int r :: rest))) : W p l e R s m args below meth c H locs cells slots Q (F0 m pc ls st0) := by
  intro T hT X
  rcases hr T hT X with ⟨v, st₀, t, T', L, h0, X', hL, e1, e2, ⟨⟨r, u, hv, hp, hb⟩, hF⟩, st⟩ | ⟨q, st₀, t, T', L, E, ce, h0, X', hL, e1, e2, ⟨u, hp, hb, hF⟩, hce, hcv, hcl, st⟩
  · cases hv
    obtain ⟨k1, k2, k3⟩ := vx_keep h0 e1 hS hA hf hL hF
    obtain ⟨t2, a1, b1⟩ := kk r u t T'.heap (locs ++ L) e1.symm (by rw [← e2]; exact X'.warmed.alike) hp hb k1 k2 k3 T' rfl X'
    exact ⟨t2, st t2 a1, b1⟩
  · obtain ⟨k1, k2, k3⟩ := vx_keep h0 e1 hS hAX hf hL hF
    obtain ⟨t2, a1, b1⟩ := kx E ce q u t T'.heap (locs ++ L) e1.symm (by rw [← e2]; exact X'.warmed.alike) hp hb k1 k2 k3 (by rw [e1]; exact hce) hcv hcl T' rfl X'
    exact ⟨t2, st.trans a1, b1⟩
theorem vx_calll {S SX : Type} {post : Int64 → S → Prop} {px : SX → Prop} {B : S → State → Prop} {BX : String → SX → State → Prop} {AX : Nat → Prop} (hr : vx_Run p l e R s m args below meth c H locs cells slots mc ms (F0 m pc ls st0) rest (va_Ql post B A1 a) (vx_X px BX AX) free) (hS : va_S A0 H0 H locs) (hA : ∀ q, q < H.size → A1 q → A0 q) (hf : ∀ q, free q → A0 q) (hAX : ∀ q, q < H.size → AX q → A0 q)
    (kx : ∀ (E : String) (ce : Cell) (q9 : Addr) (u : SX) (t : State) (H1 : Heap) (locs1 : List Loc), t.heap = H1 → s.vm.Alike t.vm → px u → BX E u t → H.size ≤ H1.size → (∀ q : Nat, q < H.size → ¬ AX q → H1[q]? = H[q]?) → va_S A0 H0 H1 locs1 → H1[q9]? = some ce → ce.vm = .none → s.vm.findClass E = some ce.cls → vx_W p l e R s m args below meth c H1 locs1 (cells + mc) (slots + ms) Q (F0 m pc ls rest) q9)
    (kk : ∀ (r : Int64) (u : S) (t : State) (H1 : Heap) (locs1 : List Loc), t.heap = H1 → s.vm.Alike t.vm → post r u → B u t → H.size ≤ H1.size → (∀ q : Nat, q < H.size → ¬ A1 q → H1[q]? = H[q]?) → va_S A0 H0 H1 locs1 → W p l e R s m args below meth c H1 locs1 (cells + mc) (slots + ms) Q (F0 m (pc + 3) ls (.long r :: rest))) : W p l e R s m args below meth c H locs cells slots Q (F0 m pc ls st0) := by
  intro T hT X
  rcases hr T hT X with ⟨v, st₀, t, T', L, h0, X', hL, e1, e2, ⟨⟨r, u, hv, hp, hb⟩, hF⟩, st⟩ | ⟨q, st₀, t, T', L, E, ce, h0, X', hL, e1, e2, ⟨u, hp, hb, hF⟩, hce, hcv, hcl, st⟩
  · cases hv
    obtain ⟨k1, k2, k3⟩ := vx_keep h0 e1 hS hA hf hL hF
    obtain ⟨t2, a1, b1⟩ := kk r u t T'.heap (locs ++ L) e1.symm (by rw [← e2]; exact X'.warmed.alike) hp hb k1 k2 k3 T' rfl X'
    exact ⟨t2, st t2 a1, b1⟩
  · obtain ⟨k1, k2, k3⟩ := vx_keep h0 e1 hS hAX hf hL hF
    obtain ⟨t2, a1, b1⟩ := kx E ce q u t T'.heap (locs ++ L) e1.symm (by rw [← e2]; exact X'.warmed.alike) hp hb k1 k2 k3 (by rw [e1]; exact hce) hcv hcl T' rfl X'
    exact ⟨t2, st.trans a1, b1⟩
theorem vx_callf {S SX : Type} {post : UInt32 → S → Prop} {px : SX → Prop} {B : S → State → Prop} {BX : String → SX → State → Prop} {AX : Nat → Prop} (hr : vx_Run p l e R s m args below meth c H locs cells slots mc ms (F0 m pc ls st0) rest (va_Qf post B A1 a) (vx_X px BX AX) free) (hS : va_S A0 H0 H locs) (hA : ∀ q, q < H.size → A1 q → A0 q) (hf : ∀ q, free q → A0 q) (hAX : ∀ q, q < H.size → AX q → A0 q)
    (kx : ∀ (E : String) (ce : Cell) (q9 : Addr) (u : SX) (t : State) (H1 : Heap) (locs1 : List Loc), t.heap = H1 → s.vm.Alike t.vm → px u → BX E u t → H.size ≤ H1.size → (∀ q : Nat, q < H.size → ¬ AX q → H1[q]? = H[q]?) → va_S A0 H0 H1 locs1 → H1[q9]? = some ce → ce.vm = .none → s.vm.findClass E = some ce.cls → vx_W p l e R s m args below meth c H1 locs1 (cells + mc) (slots + ms) Q (F0 m pc ls rest) q9)
    (kk : ∀ (r : UInt32) (u : S) (t : State) (H1 : Heap) (locs1 : List Loc), t.heap = H1 → s.vm.Alike t.vm → post r u → B u t → H.size ≤ H1.size → (∀ q : Nat, q < H.size → ¬ A1 q → H1[q]? = H[q]?) → va_S A0 H0 H1 locs1 → W p l e R s m args below meth c H1 locs1 (cells + mc) (slots + ms) Q (F0 m (pc + 3) ls (.float r :: rest))) : W p l e R s m args below meth c H locs cells slots Q (F0 m pc ls st0) := by
  intro T hT X
  rcases hr T hT X with ⟨v, st₀, t, T', L, h0, X', hL, e1, e2, ⟨⟨r, u, hv, hp, hb⟩, hF⟩, st⟩ | ⟨q, st₀, t, T', L, E, ce, h0, X', hL, e1, e2, ⟨u, hp, hb, hF⟩, hce, hcv, hcl, st⟩
  · cases hv
    obtain ⟨k1, k2, k3⟩ := vx_keep h0 e1 hS hA hf hL hF
    obtain ⟨t2, a1, b1⟩ := kk r u t T'.heap (locs ++ L) e1.symm (by rw [← e2]; exact X'.warmed.alike) hp hb k1 k2 k3 T' rfl X'
    exact ⟨t2, st t2 a1, b1⟩
  · obtain ⟨k1, k2, k3⟩ := vx_keep h0 e1 hS hAX hf hL hF
    obtain ⟨t2, a1, b1⟩ := kx E ce q u t T'.heap (locs ++ L) e1.symm (by rw [← e2]; exact X'.warmed.alike) hp hb k1 k2 k3 (by rw [e1]; exact hce) hcv hcl T' rfl X'
    exact ⟨t2, st.trans a1, b1⟩
theorem vx_calld {S SX : Type} {post : UInt64 → S → Prop} {px : SX → Prop} {B : S → State → Prop} {BX : String → SX → State → Prop} {AX : Nat → Prop} (hr : vx_Run p l e R s m args below meth c H locs cells slots mc ms (F0 m pc ls st0) rest (va_Qd post B A1 a) (vx_X px BX AX) free) (hS : va_S A0 H0 H locs) (hA : ∀ q, q < H.size → A1 q → A0 q) (hf : ∀ q, free q → A0 q) (hAX : ∀ q, q < H.size → AX q → A0 q)
    (kx : ∀ (E : String) (ce : Cell) (q9 : Addr) (u : SX) (t : State) (H1 : Heap) (locs1 : List Loc), t.heap = H1 → s.vm.Alike t.vm → px u → BX E u t → H.size ≤ H1.size → (∀ q : Nat, q < H.size → ¬ AX q → H1[q]? = H[q]?) → va_S A0 H0 H1 locs1 → H1[q9]? = some ce → ce.vm = .none → s.vm.findClass E = some ce.cls → vx_W p l e R s m args below meth c H1 locs1 (cells + mc) (slots + ms) Q (F0 m pc ls rest) q9)
    (kk : ∀ (r : UInt64) (u : S) (t : State) (H1 : Heap) (locs1 : List Loc), t.heap = H1 → s.vm.Alike t.vm → post r u → B u t → H.size ≤ H1.size → (∀ q : Nat, q < H.size → ¬ A1 q → H1[q]? = H[q]?) → va_S A0 H0 H1 locs1 → W p l e R s m args below meth c H1 locs1 (cells + mc) (slots + ms) Q (F0 m (pc + 3) ls (.double r :: rest))) : W p l e R s m args below meth c H locs cells slots Q (F0 m pc ls st0) := by
  intro T hT X
  rcases hr T hT X with ⟨v, st₀, t, T', L, h0, X', hL, e1, e2, ⟨⟨r, u, hv, hp, hb⟩, hF⟩, st⟩ | ⟨q, st₀, t, T', L, E, ce, h0, X', hL, e1, e2, ⟨u, hp, hb, hF⟩, hce, hcv, hcl, st⟩
  · cases hv
    obtain ⟨k1, k2, k3⟩ := vx_keep h0 e1 hS hA hf hL hF
    obtain ⟨t2, a1, b1⟩ := kk r u t T'.heap (locs ++ L) e1.symm (by rw [← e2]; exact X'.warmed.alike) hp hb k1 k2 k3 T' rfl X'
    exact ⟨t2, st t2 a1, b1⟩
  · obtain ⟨k1, k2, k3⟩ := vx_keep h0 e1 hS hAX hf hL hF
    obtain ⟨t2, a1, b1⟩ := kx E ce q u t T'.heap (locs ++ L) e1.symm (by rw [← e2]; exact X'.warmed.alike) hp hb k1 k2 k3 (by rw [e1]; exact hce) hcv hcl T' rfl X'
    exact ⟨t2, st.trans a1, b1⟩
theorem vx_callv {S SX : Type} {post : S → Prop} {px : SX → Prop} {B : S → State → Prop} {BX : String → SX → State → Prop} {AX : Nat → Prop} (hr : vx_Run p l e R s m args below meth c H locs cells slots mc ms (F0 m pc ls st0) rest (va_Qv post B A1 a) (vx_X px BX AX) free) (hS : va_S A0 H0 H locs) (hA : ∀ q, q < H.size → A1 q → A0 q) (hf : ∀ q, free q → A0 q) (hAX : ∀ q, q < H.size → AX q → A0 q)
    (kx : ∀ (E : String) (ce : Cell) (q9 : Addr) (u : SX) (t : State) (H1 : Heap) (locs1 : List Loc), t.heap = H1 → s.vm.Alike t.vm → px u → BX E u t → H.size ≤ H1.size → (∀ q : Nat, q < H.size → ¬ AX q → H1[q]? = H[q]?) → va_S A0 H0 H1 locs1 → H1[q9]? = some ce → ce.vm = .none → s.vm.findClass E = some ce.cls → vx_W p l e R s m args below meth c H1 locs1 (cells + mc) (slots + ms) Q (F0 m pc ls rest) q9)
    (kk : ∀ (u : S) (t : State) (H1 : Heap) (locs1 : List Loc), t.heap = H1 → s.vm.Alike t.vm → post u → B u t → H.size ≤ H1.size → (∀ q : Nat, q < H.size → ¬ A1 q → H1[q]? = H[q]?) → va_S A0 H0 H1 locs1 → W p l e R s m args below meth c H1 locs1 (cells + mc) (slots + ms) Q (F0 m (pc + 3) ls (rest))) : W p l e R s m args below meth c H locs cells slots Q (F0 m pc ls st0) := by
  intro T hT X
  rcases hr T hT X with ⟨v, st₀, t, T', L, h0, X', hL, e1, e2, ⟨⟨u, hv, hp, hb⟩, hF⟩, st⟩ | ⟨q, st₀, t, T', L, E, ce, h0, X', hL, e1, e2, ⟨u, hp, hb, hF⟩, hce, hcv, hcl, st⟩
  · cases hv
    obtain ⟨k1, k2, k3⟩ := vx_keep h0 e1 hS hA hf hL hF
    obtain ⟨t2, a1, b1⟩ := kk u t T'.heap (locs ++ L) e1.symm (by rw [← e2]; exact X'.warmed.alike) hp hb k1 k2 k3 T' rfl X'
    exact ⟨t2, st t2 a1, b1⟩
  · obtain ⟨k1, k2, k3⟩ := vx_keep h0 e1 hS hAX hf hL hF
    obtain ⟨t2, a1, b1⟩ := kx E ce q u t T'.heap (locs ++ L) e1.symm (by rw [← e2]; exact X'.warmed.alike) hp hb k1 k2 k3 (by rw [e1]; exact hce) hcv hcl T' rfl X'
    exact ⟨t2, st.trans a1, b1⟩
/-- caught by the row x of this method's table; the rows ahead don't take it -/
theorem vx_catch {own name : String} {E : String} {ce : Cell} {q : Addr} (hown : s.vm.findClass own = some m.cls) (pre : List ExceptionTableEntry) (x : ExceptionTableEntry) (suf : List ExceptionTableEntry) (hsplit : c.exceptionTable.toList = pre ++ x :: suf)
    (hpass : ∀ z ∈ pre, covers z pc = false ∨ (z.catchType ≠ 0 ∧ ∃ nm : String, (Cond.classLink own z.catchType nm).before args s = true ∧ va_Nc E nm s)) (hx : covers x pc = true) (h0 : x.catchType ≠ 0)
    (hlink : (Cond.classLink own x.catchType name).before args s = true) (hcast : (Cond.castable E name).before args s = true) (hcell : H[q]? = some ce) (hv : ce.vm = .none) (hcl : s.vm.findClass E = some ce.cls)
    (kk : W p l e R s m args below meth c H locs cells slots Q (F0 m x.handlerPc ls [.ref q])) : vx_W p l e R s m args below meth c H locs cells slots Q (F0 m pc ls rest) q := by
  intro T hT X
  have hpl : e.platform.magicAccessors = ({} : Platform).magicAccessors := by rw [X.admits.platform]
  obtain ⟨c3, c4, hc3, hc4, hasg⟩ := Cond.castable_spec hcast
  cases Option.some.inj (hc3.symm.trans hcl)
  obtain ⟨c5, hc5, hcl5⟩ := Cond.classLink_spec hown hlink e.platform hpl
  cases Option.some.inj (hc4.symm.trans hc5)
  obtain ⟨vm', X', st⟩ := X.thenCaughtThrough q (g := F0 m pc ls rest) rfl (Steps.refl _) (by rw [hT]; exact hcell) (by rw [hv]; rfl) (by obtain ⟨k9, h9, -⟩ := Vm.findClass_spec hcl; exact ⟨k9, h9⟩) pre x suf hsplit
    (fun z hz => by
      rcases hpass z hz with h | ⟨hz0, nm, hl1, hn1⟩
      · exact Or.inl h
      · obtain ⟨c6, hc6, hcl6⟩ := Cond.classLink_spec hown hl1 e.platform hpl
        obtain ⟨a8, b8, h1, h2, h3⟩ := hn1
        cases Option.some.inj (h1.symm.trans hcl)
        cases Option.some.inj (h2.symm.trans hc6)
        exact Or.inr ⟨hz0, _, hcl6, h3⟩) hx (Or.inr ⟨h0, c4, hcl5, hasg⟩)
  obtain ⟨t, a1, b1⟩ := kk (T.setVm vm') hT X'
  exact ⟨t, st.trans a1, b1⟩
end Rows
section Ends
variable {p : Program} {l : Launch} {e : Env} {R : Room} {s : State} {m : MethodId} {args : Array Value} {below : List Frame} {meth : Method} {c : Code} {H : Heap} {locs : List Loc} {cells slots : Nat} {Q : State → Prop}
variable {mc ms : Nat} {free : Addr → Prop} {A0 A1 : Nat → Prop} {H0 : Heap} {a : Array Value} {ls : Array Slot} {st0 rest : List Value}
variable {Qc : Array Value → State → Outcome → State → Prop} {XC : String → State → State → Prop}
/-- what a body that may throw owes at its end -/
def vx_MQ (below : List Frame) (Qc : Array Value → State → Outcome → State → Prop) (XC : String → State → State → Prop) (a : Array Value) (s : State) (mc ms : Nat) (free : Addr → Prop) : State → Prop := fun t =>
  ∃ o, t.status = .running ∧ Ended t below o ∧ vx_Q Qc XC mc ms free a s o t
theorem vx_ret {g : JFrame} {mc ms : Nat} (k : W p l e R s m args below meth c H locs cells slots (MQ below Qc args s mc ms free) g) : W p l e R s m args below meth c H locs cells slots (vx_MQ below Qc XC args s mc ms free) g := by
  intro T hT X
  obtain ⟨t, a1, o, b1, b2, b3, b4⟩ := k T hT X
  exact ⟨t, a1, o, b1, b2, Or.inl ⟨b3, b4⟩⟩
/-- not caught here: it goes on to the caller -/
theorem vx_widen {g : JFrame} {q : Addr} {k n : Nat} (h1 : cells ≤ k) (h2 : slots ≤ n) (kk : vx_W p l e R s m args below meth c H locs k n Q g q) : vx_W p l e R s m args below meth c H locs cells slots Q g q := fun T hT X => kk T hT (stand_widen X h1 h2)
theorem vx_out {pc : Nat} {E : String} {ce : Cell} {q : Addr} {mc ms : Nat} (hout : ∀ x ∈ c.exceptionTable.toList, covers x pc = false) (hlocks : meth.locks = false) (hcell : H[q]? = some ce) (hv : ce.vm = .none) (hcl : s.vm.findClass E = some ce.cls)
    (hx : ∀ t : State, t.heap = H → s.vm.Alike t.vm → XC E s t) (hf : ∀ z ∈ locs, free z.base) (hc : cells ≤ mc) (hs : slots ≤ ms) :
    vx_W p l e R s m args below meth c H locs cells slots (vx_MQ below Qc XC args s mc ms free) (F0 m pc ls rest) q := by
  intro T hT X
  obtain ⟨st1, hrun, hend, hW, hsm⟩ := X.leaveThrown q (g := F0 m pc ls rest) rfl rfl rfl hout hlocks
  have hcell9 : (T.setFrames (.throwing q :: below)).heap[q]? = some ce := by
    show T.heap[q]? = some ce
    rw [hT]; exact hcell
  exact ⟨_, st1, .threw q, hrun, hend, Or.inr ⟨q, rfl, E, ce, locs, hx _ hT hW.alike, hcell9, hv, hcl, hW, hsm.mono hc hs, hf⟩⟩
theorem vx_frame {U : State} {k n : Nat} (h : s.sameButNew ({ U with vm := s.vm } : State) locs k n) : s.heap.size ≤ U.heap.size ∧ ∀ q : Nat, q < s.heap.size → (∀ z ∈ locs, z.base ≠ q) → U.heap[q]? = s.heap[q]? := by
  obtain ⟨-, h2, -, -, -, h6⟩ := h
  refine ⟨h2, fun q hq hz => ?_⟩
  obtain ⟨c9, e1, e2, e3, e4⟩ := h6 q _ (Array.getElem?_eq_getElem hq)
  have hs : c9.slots = (s.heap[q]).slots := Array.ext_getElem? fun i => e4 i fun hm => hz _ hm rfl
  have h9 : c9 = s.heap[q] := by
    rw [hs] at e2
    exact e2
  have e5 : U.heap[q]? = some c9 := e1
  rw [e5, h9, Array.getElem?_eq_getElem hq]
/-- the words of a throw but the four that speak of the heap -/
def vx_no (w : Cond) : Bool := decide (w ≠ .isRef (.static Bundle.tN "UNASSIGNED_STACK" Bundle.steD)) && decide (w ≠ .isRef (.static Bundle.tN "SUPPRESSED_SENTINEL" Bundle.listD)) && decide (w ≠ .laysStatic Bundle.tN "UNASSIGNED_STACK" Bundle.steD) && decide (w ≠ .laysStatic Bundle.tN "SUPPRESSED_SENTINEL" Bundle.listD)
def vx_at0 (own : String) (ic : Nat) (X : String) (names : List String) : List Cond := (Bundle.ownAtoms0 own ic X names).filter vx_no
def vx_atS (own : String) (ic : Nat) (X : String) (names : List String) : List Cond := (Bundle.ownAtoms own ic X names).filter vx_no
/-- a word that the tables alone decide, or a good one -/
def vx_ot (w : Cond) : Bool := w.onTables || goodWord w
theorem vx_ot_at {args a' : Array Value} {s U : State} {w : Cond} (hW : s.WarmedH U.vm) (hvm : s.vm = U.vm) (hg : vx_ot w = true) (h : w.before args s = true) : w.before a' U = true := by
  simp only [vx_ot, Bool.or_eq_true] at hg
  rcases hg with hg | hg
  · exact va_tabs hg hvm h
  · exact word_at hW (good_of_word hg) h
/-- a list's words: the good ones out of the method's own list, the others by premises of their own -/
theorem vx_hat {args : Array Value} {s : State} {L B : List Cond} (h1 : ∀ w ∈ L.filter goodWord, w.before args s = true) (h2 : ∀ w ∈ L.filter (fun w => !goodWord w), w ∈ B) (h3 : ∀ w ∈ B, w.before args s = true) : ∀ w ∈ L, w.before args s = true := by
  intro w hw
  by_cases g : goodWord w = true
  · exact h1 w (List.mem_filter.mpr ⟨hw, g⟩)
  · refine h3 w (h2 w (List.mem_filter.mpr ⟨hw, ?_⟩))
    show (!goodWord w) = true
    cases hgw : goodWord w
    · rfl
    · exact absurd hgw g
theorem vx_c {args : Array Value} {s : State} {w : Cond} {B : List Cond} (h : w.before args s = true) (t : ∀ w ∈ B, w.before args s = true) : ∀ w' ∈ w :: B, w'.before args s = true := fun w' h' => (List.mem_cons.mp h').elim (fun e => by rw [e]; exact h) (t w')
theorem vx_n {args : Array Value} {s : State} : ∀ w ∈ ([] : List Cond), w.before args s = true := fun _ h => nomatch h
theorem vx_own {args : Array Value} {s : State} {L : List Cond} (h1 : ∀ w ∈ L.filter vx_no, w.before args s = true)
    (hU : (Cond.isRef (.static Bundle.tN "UNASSIGNED_STACK" Bundle.steD)).before args s = true) (hN : (Cond.isRef (.static Bundle.tN "SUPPRESSED_SENTINEL" Bundle.listD)).before args s = true)
    (lU : (Cond.laysStatic Bundle.tN "UNASSIGNED_STACK" Bundle.steD).before args s = true) (lN : (Cond.laysStatic Bundle.tN "SUPPRESSED_SENTINEL" Bundle.listD).before args s = true) : ∀ w ∈ L, w.before args s = true := by
  intro w hw
  by_cases e1 : w = .isRef (.static Bundle.tN "UNASSIGNED_STACK" Bundle.steD)
  · rw [e1]; exact hU
  · by_cases e2 : w = .isRef (.static Bundle.tN "SUPPRESSED_SENTINEL" Bundle.listD)
    · rw [e2]; exact hN
    · by_cases e3 : w = .laysStatic Bundle.tN "UNASSIGNED_STACK" Bundle.steD
      · rw [e3]; exact lU
      · by_cases e4 : w = .laysStatic Bundle.tN "SUPPRESSED_SENTINEL" Bundle.listD
        · rw [e4]; exact lN
        · exact h1 w (List.mem_filter.mpr ⟨hw, by unfold vx_no; rw [decide_eq_true e1, decide_eq_true e2, decide_eq_true e3, decide_eq_true e4]; rfl⟩)
/-- where a static field lies, its class's statics cell in H -/
def vx_L (C n d : String) (A : Nat → Prop) (U : State) (H : Heap) : Prop := ∃ (c : ClassId) (k : Class) (i : Nat) (f : Field) (a : Nat) (cell : Cell), U.vm.findClass C = some c ∧ U.fieldFound? C n d = some (c, k, i, f) ∧ f.isStatic = true ∧ k.statics = some a ∧ H[a]? = some cell ∧ cell.vm.isStatics = true ∧ cell.cls = c ∧ f.slot < cell.slots.size ∧ k.staticTypes[f.slot]? = some f.type ∧ ¬ A a
theorem vx_L.moved {C n d : String} {A : Nat → Prop} {u U : State} {H : Heap} (hvm : u.vm.Alike U.vm) (h : vx_L C n d A u H) : vx_L C n d A U H := by
  obtain ⟨c, k, i, f, a, cell, h1, h2, h3, h4, h5, h6, h7, h8, h9, h10⟩ := h
  obtain ⟨k', hi', he⟩ := State.fieldFound?_setVm hvm h2
  exact ⟨c, k', i, f, a, cell, by rw [hvm.findClass]; exact h1, hi', h3, by rw [he]; exact h4, h5, h6, h7, h8, by rw [he]; exact h9, h10⟩
theorem vx_L.kept {C n d : String} {A : Nat → Prop} {U : State} {H H1 : Heap} (h : vx_L C n d A U H) (hq : ∀ a : Nat, a < H.size → ¬ A a → H1[a]? = H[a]?) : vx_L C n d A U H1 := by
  obtain ⟨c, k, i, f, a, cell, h1, h2, h3, h4, h5, h6, h7, h8, h9, h10⟩ := h
  exact ⟨c, k, i, f, a, cell, h1, h2, h3, h4, by rw [hq a (Array.getElem?_eq_some_iff.mp h5).1 h10]; exact h5, h6, h7, h8, h9, h10⟩
theorem vx_L.narrow {C n d : String} {A B : Nat → Prop} {U : State} {H : Heap} (h : vx_L C n d A U H) (hAB : ∀ q, B q → A q) : vx_L C n d B U H := by
  obtain ⟨c, k, i, f, a, cell, h1, h2, h3, h4, h5, h6, h7, h8, h9, h10⟩ := h
  exact ⟨c, k, i, f, a, cell, h1, h2, h3, h4, h5, h6, h7, h8, h9, fun z => h10 (hAB _ z)⟩
theorem vx_L.word {C n d : String} {A : Nat → Prop} {s : State} {args : Array Value} (h : vx_L C n d A s s.heap) : (Cond.laysStatic C n d).before args s = true := by
  obtain ⟨c, k, i, f, a, cell, h1, h2, h3, h4, h5, h6, h7, h8, h9, -⟩ := h
  show (Cond.laysStatic C n d).holds args s none s [] = true
  exact Cond.laysStatic_of h1 h2 h3 h4 h5 h6 h7 h8 h9
/-- .. and what it holds: null or some reference -/
def vx_Zq (C n d : String) (A : Nat → Prop) (U : State) (H : Heap) : Prop := va_Zq C n d A U H ∧ vx_L C n d A U H
theorem vx_Zq.moved {C n d : String} {A : Nat → Prop} {u U : State} {H : Heap} (hvm : u.vm.Alike U.vm) (h : vx_Zq C n d A u H) : vx_Zq C n d A U H := ⟨va_Zq.moved hvm h.1, vx_L.moved hvm h.2⟩
theorem vx_Zq.kept {C n d : String} {A : Nat → Prop} {U : State} {H H1 : Heap} (h : vx_Zq C n d A U H) (hq : ∀ a : Nat, a < H.size → ¬ A a → H1[a]? = H[a]?) : vx_Zq C n d A U H1 := ⟨va_Zq.kept h.1 hq, vx_L.kept h.2 hq⟩
theorem vx_Zq.narrow {C n d : String} {A B : Nat → Prop} {U : State} {H : Heap} (h : vx_Zq C n d A U H) (hAB : ∀ q, B q → A q) : vx_Zq C n d B U H := ⟨va_Zq.narrow h.1 hAB, vx_L.narrow h.2 hAB⟩
theorem vx_Zqof {args : Array Value} {s : State} {C n d : String} {A : Nat → Prop} (hl : (Cond.laysStatic C n d).before args s = true) (hini : (Cond.initialized C).before args s = true) (h : (Cond.isRef (.static C n d)).before args s = true) (hA : ∀ a : Nat, a < s.heap.size → ¬ A a) : vx_Zq C n d A s s.heap := by
  refine ⟨va_Zqof hl hini h hA, ?_⟩
  obtain ⟨c, k, i, f, a, cell, h1, h2, h3, h4, h5, h6, h7, h8, h9⟩ := Cond.laysStatic_spec hl
  exact ⟨c, k, i, f, a, cell, h1, h2, h3, h4, h5, h6, h7, h8, h9, hA a (Array.getElem?_eq_some_iff.mp h5).1⟩
theorem vx_isRef {C n d : String} {v : Value} {A : Nat → Prop} {s : State} {args : Array Value} (h : va_Z C n d v A s s.heap) (hv : v.isRef = true) : (Cond.isRef (.static C n d)).before args s = true := by
  obtain ⟨cf, kf, fi, f, a, cell, h1, h2, h3, h4, h5, h6, h7, -⟩ := h
  have he : (Term.static C n d).eval args s none [] s = some v := by
    simp [Term.eval, State.fieldNamed?, h1, h2, h4, h5, h6, h7]
  simp only [Cond.before, Cond.holds, Cond.value, he]
  cases v <;> simp_all [Value.isRef]
theorem vx_isRefq {C n d : String} {A : Nat → Prop} {s : State} {args : Array Value} (h : va_Zq C n d A s s.heap) : (Cond.isRef (.static C n d)).before args s = true := by
  rcases h with h | ⟨t, h⟩
  · exact vx_isRef h rfl
  · exact vx_isRef h rfl
/-- the same frame, seen from here: as if the method were called anew in this heap -/
theorem vx_rebase {T : State} (X : Stand p l e R s m args below meth c T locs cells slots) {R' : Room} (hf : R'.frames ≤ R.frames) (hl : R'.locals ≤ R.locals) (hc : cells + R'.cells ≤ R.cells) (hs : slots + R'.slots ≤ R.slots) :
    Stand p l e R' ((T.setVm s.vm).setFrames (.invoking m args :: below)) m args below meth c T [] 0 0 := by
  have htop : (T.setVm s.vm).topJava?.isSome := X.here.top
  have hF : ((T.setVm s.vm).setFrames (.invoking m args :: below)).frames = .invoking m args :: below := State.frames_setFrames _ (State.cur_lt_of_top htop)
  obtain ⟨g₀, hg0⟩ := Option.isSome_iff_exists.mp htop
  obtain ⟨r, hr⟩ := State.topJava?_eq_some.mp hg0
  have hl9 : e.platform.stackLimits (T.setVm s.vm).me = e.platform.stackLimits s.me := X.limits
  have hb9 : (T.setVm s.vm).me.stackBytes = s.me.stackBytes := X.bytes
  refine ⟨X.admits, X.cas, X.clock, hF, ?_, X.hears, X.method, X.code, X.here, X.tail, X.warmed, ?_, ?_, ?_⟩
  · have h := X.room
    have hU : ((T.setVm s.vm).setFrames (.invoking m args :: below)).localsInUse = s.localsInUse := by
      rw [State.localsInUse_invoking hF (meth := meth) (c := c) X.method X.code, State.localsInUse_invoking X.frames X.method X.code]
    simp only [State.hasRoom, Bool.and_eq_true, decide_eq_true_eq] at h ⊢
    obtain ⟨⟨⟨⟨h1, h2, h3, h4, h5, h6⟩, h7⟩, h8⟩, h9⟩ := h
    rw [X.frames, List.length_cons] at h2 h3
    have q1 := X.heapSize
    have q2 := X.used
    simp only [hF, hU, List.length_cons, State.stackLimits_setFrames, State.stackBytes_setFrames, hl9, hb9]
    refine ⟨⟨⟨⟨by omega, by omega, by omega, by omega, by omega, h6⟩, ?_⟩, ?_⟩, X.book⟩
    · show T.heap.size + R'.cells ≤ e.platform.maxCells
      omega
    · show T.slotsUsed + R'.slots ≤ e.platform.maxSlots
      omega
  · rw [State.stackLimits_setFrames]; rfl
  · rw [State.stackBytes_setFrames]; rfl
  · refine ⟨?_, Nat.le_refl _, Nat.le_refl _, ?_, ?_, fun a c9 h9 => ⟨c9, h9, rfl, rfl, fun _ _ => rfl⟩⟩
    · obtain ⟨t, ht, -⟩ := State.frames_cons hr
      show T.setVm s.vm = { ((T.setVm s.vm).setFrames (.invoking m args :: below)).setFrames (T.setVm s.vm).frames with heap := T.heap, slotsUsed := T.slotsUsed }
      rw [State.setFrames_setFrames, State.setFrames_self ht]
      rfl
    · show T.slotsUsed = T.slotsUsed + ((T.heap.toList.drop T.heap.size).map (·.slots.size)).sum
      rw [List.drop_eq_nil_of_le (Nat.le_of_eq Array.length_toList)]
      rfl
    · show ((T.heap.toList.drop T.heap.size).map (·.slots.size)).sum ≤ 0
      rw [List.drop_eq_nil_of_le (Nat.le_of_eq Array.length_toList)]
      exact Nat.le_refl _
/-- 'throw new E()': new; dup; invokespecial; athrow -/
theorem vx_throw0 {cc : ByteArray} {pc : Nat} (hexec : p.tables.exec = Jvm.exec) (hb : c.code = cc) (hl : l.stackTraces = false) {own cls : String} {names : List String} {ik ic mc ms : Nat} {A : Nat → Prop}
    (hown : s.vm.findClass own = some m.cls) (hcls : Bundle.fit cls = true) (hnames : ∀ n ∈ names, Bundle.fit n = true)
    (hk : (Cond.classLink own ik cls).before args s = true) (hini : (Cond.initialized cls).before args s = true) (hat : ∀ w ∈ vx_at0 own ic cls names, w.before args s = true)
    (hgood : ∀ w ∈ Cond.classLink own ik cls :: Cond.initialized cls :: vx_at0 own ic cls names, vx_ot w = true)
    (hU : vx_Zq Bundle.tN "UNASSIGNED_STACK" Bundle.steD A s s.heap) (hN : vx_Zq Bundle.tN "SUPPRESSED_SENTINEL" Bundle.listD A s s.heap) (hS : va_S A s.heap H locs) (hsize : ls.size = c.maxLocals)
    (d0 : decode cc pc = .ok (.new ik, 3)) (d3 : decode cc (pc + 3) = .ok (.dup, 1)) (d4 : decode cc (pc + 4) = .ok (.invokespecial ic, 3)) (d7 : decode cc (pc + 7) = .ok (.athrow, 1))
    (hout : ∀ x ∈ c.exceptionTable.toList, covers x (pc + 7) = false)
    (hRframes : names.length + 3 < R.frames) (hRlocals : (rest.map fun v => v.category).sum + (13 * (names.length + 1) + 42) ≤ R.locals) (hRcells : cells + 1 ≤ R.cells) (hRslots : slots + 6 ≤ R.slots) (hlocks : meth.locks = false)
    (hx : ∀ t : State, s.vm.Alike t.vm → H.size ≤ t.heap.size → (∀ q : Nat, q < H.size → t.heap[q]? = H[q]?) → XC cls s t)
    (hf : ∀ z ∈ locs, free z.base) (hc : cells + 1 ≤ mc) (hs : slots + 6 ≤ ms) :
    W p l e R s m args below meth c H locs cells slots (vx_MQ below Qc XC args s mc ms free) (F0 m pc ls rest) := by
  intro T hT X
  have htr : e.platform.stackTraces = false := (show e.platform.stackTraces = l.stackTraces by rw [X.admits.platform]).trans hl
  have Y := vx_rebase X (R' := { frames := R.frames, locals := R.locals, cells := 1, slots := 6 }) (Nat.le_refl _) (Nat.le_refl _) hRcells hRslots
  obtain ⟨s', hA⟩ : ∃ z, z = (T.setVm s.vm).setFrames (.invoking m args :: below) := ⟨_, rfl⟩
  rw [← hA] at Y
  have hvm : s'.vm = s.vm := by rw [hA]; rfl
  have hhp : s'.heap = H := by rw [hA]; exact hT
  have hW0 : s.WarmedH s'.vm := by rw [hvm]; exact State.WarmedH.refl s
  have hat' : ∀ w ∈ vx_at0 own ic cls names, w.before args s' = true := fun w hw => vx_ot_at hW0 hvm.symm (hgood w (List.mem_cons_of_mem _ (List.mem_cons_of_mem _ hw))) (hat w hw)
  have hk' : (Cond.classLink own ik cls).before args s' = true := vx_ot_at hW0 hvm.symm (hgood _ List.mem_cons_self) hk
  have hini' : (Cond.initialized cls).before args s' = true := vx_ot_at hW0 hvm.symm (hgood _ (List.mem_cons_of_mem _ List.mem_cons_self)) hini
  have hU' : vx_Zq Bundle.tN "UNASSIGNED_STACK" Bundle.steD A s' s'.heap := by rw [hhp]; exact vx_Zq.moved hW0.alike (hU.kept hS.2.1)
  have hN' : vx_Zq Bundle.tN "SUPPRESSED_SENTINEL" Bundle.listD A s' s'.heap := by rw [hhp]; exact vx_Zq.moved hW0.alike (hN.kept hS.2.1)
  have h : ∀ w ∈ Bundle.ownAtoms0 own ic cls names, w.before args s' = true := vx_own hat' (vx_isRefq hU'.1) (vx_isRefq hN'.1) hU'.2.word hN'.2.word
  have hown' : s'.vm.findClass own = some m.cls := by rw [hvm]; exact hown
  have hins : (Cond.instantiable cls 6).before args s' = true := h _ (by simp [Bundle.ownAtoms0])
  obtain ⟨vm₁, cX, kX, hfX, hkX, -, -, X₁, st1⟩ := Y.newCold hexec (own := own) (C := cls) (index := ik) (n := 6) hown' hk' hins hini'
    (g := F0 m pc ls rest) rfl (by rw [hb]; exact d0) (Nat.le_refl _) (Nat.le_refl _)
  generalize hT1 : (T.setVm vm₁).pushCell { cls := cX, slots := kX.instanceTypes.map defaultValue, vm := .none } = T1 at X₁ st1
  have hcat : (Value.ref T.heap.size).category = 1 := rfl
  have hcellA : T1.heap[T.heap.size]? = some (freshCell cX kX) := by rw [← hT1]; exact State.heap_pushCell_size _ _
  have d3' : decode c.code (pc + 3) = .ok (.dup, 1) := by rw [hb]; exact d3
  obtain ⟨U, hsteps, hrun, hend, hW, hsame, ce, hce, hO⟩ := X₁.ctorThrow0 hexec htr (own := own) (cls := cls) (names := names) (ic := ic) hown' hcls hnames h (fun x hx => nomatch hx) hfX hkX hcellA (by rw [hhp, hT]; exact Nat.le_refl _)
    (g := { method := m, pc := pc + 4, locals := ls, stack := .ref T.heap.size :: .ref T.heap.size :: rest, locked := none }) rfl hsize rfl rfl (rest := rest) rfl
    (by rw [hb]; exact d4) (by rw [hb]; exact d7) hout hRframes (by simp only [List.map_cons, List.sum_cons, hcat]; omega) hlocks
  obtain ⟨f1, f2⟩ := vx_frame hsame
  rw [hhp] at f1 f2
  have hWs : s.WarmedH U.vm := State.WarmedH.trans hW0 hW
  have hcl : s.vm.findClass cls = some ce.cls := by
    have h9 := hO.cls
    rw [hvm] at h9
    exact h9
  have hall : s.sameButNew ({ U with vm := s.vm } : State) locs mc ms := by
    subst hA
    obtain ⟨e1, e2⟩ := hsame
    rw [State.setFrames_setFrames] at e1
    have h2 : (T.setVm s.vm).sameButNew ({ U with vm := s.vm } : State) [] (0 + 1) (0 + 6) := ⟨e1, e2⟩
    have h3 := X.same.trans h2
    rw [List.append_nil] at h3
    exact h3.mono hc hs
  refine ⟨U, ?_, .threw T.heap.size, hrun, hend, Or.inr ⟨T.heap.size, rfl, cls, ce, locs, hx U hWs.alike f1 (fun q hq => f2 q hq (fun z hz => nomatch hz)), hce, hO.vm, hcl, hWs, hall, hf⟩⟩
  refine st1 _ ?_
  show Steps p.tables e below (T1.setTop { method := m, pc := pc + 3, locals := ls, stack := .ref T.heap.size :: rest, locked := none }) _
  jvm_step X₁.here [X₁.here.top, hexec, d3', Value.category]
  exact hsteps
/-- 'throw new E("text")': new; dup; ldc; invokespecial; athrow -/
theorem vx_throwS {cc : ByteArray} {pc : Nat} (hexec : p.tables.exec = Jvm.exec) (hb : c.code = cc) (hl : l.stackTraces = false) {own cls text : String} {names : List String} {ik is ic mc ms sa : Nat} {A : Nat → Prop}
    (hown : s.vm.findClass own = some m.cls) (hcls : Bundle.fit cls = true) (hnames : ∀ n ∈ names, Bundle.fit n = true)
    (hk : (Cond.classLink own ik cls).before args s = true) (hini : (Cond.initialized cls).before args s = true) (hstr : vk_R own is text sa s) (hat : ∀ w ∈ vx_atS own ic cls names, w.before args s = true)
    (hgood : ∀ w ∈ Cond.classLink own ik cls :: Cond.initialized cls :: vx_atS own ic cls names, vx_ot w = true)
    (hU : vx_Zq Bundle.tN "UNASSIGNED_STACK" Bundle.steD A s s.heap) (hN : vx_Zq Bundle.tN "SUPPRESSED_SENTINEL" Bundle.listD A s s.heap) (hS : va_S A s.heap H locs) (hsize : ls.size = c.maxLocals)
    (d0 : decode cc pc = .ok (.new ik, 3)) (d3 : decode cc (pc + 3) = .ok (.dup, 1)) (d4 : decode cc (pc + 4) = .ok (.ldc is, 2)) (d6 : decode cc (pc + 6) = .ok (.invokespecial ic, 3)) (d9 : decode cc (pc + 9) = .ok (.athrow, 1))
    (hout : ∀ x ∈ c.exceptionTable.toList, covers x (pc + 9) = false)
    (hRframes : names.length + 3 < R.frames) (hRlocals : (rest.map fun v => v.category).sum + (13 * (names.length + 1) + 43) ≤ R.locals) (hRcells : cells + 1 ≤ R.cells) (hRslots : slots + 6 ≤ R.slots) (hlocks : meth.locks = false)
    (hx : ∀ t : State, s.vm.Alike t.vm → H.size ≤ t.heap.size → (∀ q : Nat, q < H.size → t.heap[q]? = H[q]?) → XC cls s t)
    (hf : ∀ z ∈ locs, free z.base) (hc : cells + 1 ≤ mc) (hs : slots + 6 ≤ ms) :
    W p l e R s m args below meth c H locs cells slots (vx_MQ below Qc XC args s mc ms free) (F0 m pc ls rest) := by
  intro T hT X
  have htr : e.platform.stackTraces = false := (show e.platform.stackTraces = l.stackTraces by rw [X.admits.platform]).trans hl
  have Y := vx_rebase X (R' := { frames := R.frames, locals := R.locals, cells := 1, slots := 6 }) (Nat.le_refl _) (Nat.le_refl _) hRcells hRslots
  obtain ⟨s', hA⟩ : ∃ z, z = (T.setVm s.vm).setFrames (.invoking m args :: below) := ⟨_, rfl⟩
  rw [← hA] at Y
  have hvm : s'.vm = s.vm := by rw [hA]; rfl
  have hhp : s'.heap = H := by rw [hA]; exact hT
  have hW0 : s.WarmedH s'.vm := by rw [hvm]; exact State.WarmedH.refl s
  have hat' : ∀ w ∈ vx_atS own ic cls names, w.before args s' = true := fun w hw => vx_ot_at hW0 hvm.symm (hgood w (List.mem_cons_of_mem _ (List.mem_cons_of_mem _ hw))) (hat w hw)
  have hk' : (Cond.classLink own ik cls).before args s' = true := vx_ot_at hW0 hvm.symm (hgood _ List.mem_cons_self) hk
  have hini' : (Cond.initialized cls).before args s' = true := vx_ot_at hW0 hvm.symm (hgood _ (List.mem_cons_of_mem _ List.mem_cons_self)) hini
  have hU' : vx_Zq Bundle.tN "UNASSIGNED_STACK" Bundle.steD A s' s'.heap := by rw [hhp]; exact vx_Zq.moved hW0.alike (hU.kept hS.2.1)
  have hN' : vx_Zq Bundle.tN "SUPPRESSED_SENTINEL" Bundle.listD A s' s'.heap := by rw [hhp]; exact vx_Zq.moved hW0.alike (hN.kept hS.2.1)
  have h : ∀ w ∈ Bundle.ownAtoms own ic cls names, w.before args s' = true := vx_own hat' (vx_isRefq hU'.1) (vx_isRefq hN'.1) hU'.2.word hN'.2.word
  have hown' : s'.vm.findClass own = some m.cls := by rw [hvm]; exact hown
  have hins : (Cond.instantiable cls 6).before args s' = true := h _ (by simp [Bundle.ownAtoms])
  obtain ⟨vm₁, cX, kX, hfX, hkX, -, -, X₁, st1⟩ := Y.newCold hexec (own := own) (C := cls) (index := ik) (n := 6) hown' hk' hins hini'
    (g := F0 m pc ls rest) rfl (by rw [hb]; exact d0) (Nat.le_refl _) (Nat.le_refl _)
  generalize hT1 : (T.setVm vm₁).pushCell { cls := cX, slots := kX.instanceTypes.map defaultValue, vm := .none } = T1 at X₁ st1
  have hcat : (Value.ref T.heap.size).category = 1 := rfl
  have hcellA : T1.heap[T.heap.size]? = some (freshCell cX kX) := by rw [← hT1]; exact State.heap_pushCell_size _ _
  have d3' : decode c.code (pc + 3) = .ok (.dup, 1) := by rw [hb]; exact d3
  have d4' : decode c.code (pc + 4) = .ok (.ldc is, 2) := by rw [hb]; exact d4
  have hstr' : vk_R own is text sa s' := vk_R.warm hW0 hstr
  obtain ⟨U, hsteps, hrun, hend, hW, hsame, ce, hce, hO⟩ := X₁.ctorThrowS hexec htr (own := own) (cls := cls) (names := names) (ic := ic) hown' hcls hnames h (fun x hx => nomatch hx) hfX hkX hcellA (by rw [hhp, hT]; exact Nat.le_refl _) (msg := .ref sa) rfl
    (g := { method := m, pc := pc + 6, locals := ls, stack := .ref sa :: .ref T.heap.size :: .ref T.heap.size :: rest, locked := none }) rfl hsize rfl rfl (rest := rest) rfl
    (by rw [hb]; exact d6) (by rw [hb]; exact d9) hout hRframes (by simp only [List.map_cons, List.sum_cons, hcat]; omega) hlocks
  obtain ⟨f1, f2⟩ := vx_frame hsame
  rw [hhp] at f1 f2
  have hWs : s.WarmedH U.vm := State.WarmedH.trans hW0 hW
  have hcl : s.vm.findClass cls = some ce.cls := by
    have h9 := hO.cls
    rw [hvm] at h9
    exact h9
  have hall : s.sameButNew ({ U with vm := s.vm } : State) locs mc ms := by
    subst hA
    obtain ⟨e1, e2⟩ := hsame
    rw [State.setFrames_setFrames] at e1
    have h2 : (T.setVm s.vm).sameButNew ({ U with vm := s.vm } : State) [] (0 + 1) (0 + 6) := ⟨e1, e2⟩
    have h3 := X.same.trans h2
    rw [List.append_nil] at h3
    exact h3.mono hc hs
  refine ⟨U, ?_, .threw T.heap.size, hrun, hend, Or.inr ⟨T.heap.size, rfl, cls, ce, locs, hx U hWs.alike f1 (fun q hq => f2 q hq (fun z hz => nomatch hz)), hce, hO.vm, hcl, hWs, hall, hf⟩⟩
  refine st1 _ ?_
  show Steps p.tables e below (T1.setTop { method := m, pc := pc + 3, locals := ls, stack := .ref T.heap.size :: rest, locked := none }) _
  jvm_step X₁.here [X₁.here.top, hexec, d3', Value.category]
  exact X₁.ldcString hexec (own := own) (text := text) (index := is) (a := sa) hown' hstr'.1 hstr'.2
    (g := { method := m, pc := pc + 4, locals := ls, stack := .ref T.heap.size :: .ref T.heap.size :: rest, locked := none }) rfl d4' _ hsteps
/-- 'throw new E("text")', the text by a wide index -/
theorem vx_throwSW {cc : ByteArray} {pc : Nat} (hexec : p.tables.exec = Jvm.exec) (hb : c.code = cc) (hl : l.stackTraces = false) {own cls text : String} {names : List String} {ik is ic mc ms sa : Nat} {A : Nat → Prop}
    (hown : s.vm.findClass own = some m.cls) (hcls : Bundle.fit cls = true) (hnames : ∀ n ∈ names, Bundle.fit n = true)
    (hk : (Cond.classLink own ik cls).before args s = true) (hini : (Cond.initialized cls).before args s = true) (hstr : vk_R own is text sa s) (hat : ∀ w ∈ vx_atS own ic cls names, w.before args s = true)
    (hgood : ∀ w ∈ Cond.classLink own ik cls :: Cond.initialized cls :: vx_atS own ic cls names, vx_ot w = true)
    (hU : vx_Zq Bundle.tN "UNASSIGNED_STACK" Bundle.steD A s s.heap) (hN : vx_Zq Bundle.tN "SUPPRESSED_SENTINEL" Bundle.listD A s s.heap) (hS : va_S A s.heap H locs) (hsize : ls.size = c.maxLocals)
    (d0 : decode cc pc = .ok (.new ik, 3)) (d3 : decode cc (pc + 3) = .ok (.dup, 1)) (d4 : decode cc (pc + 4) = .ok (.ldc_w is, 3)) (d7 : decode cc (pc + 7) = .ok (.invokespecial ic, 3)) (d10 : decode cc (pc + 10) = .ok (.athrow, 1))
    (hout : ∀ x ∈ c.exceptionTable.toList, covers x (pc + 10) = false)
    (hRframes : names.length + 3 < R.frames) (hRlocals : (rest.map fun v => v.category).sum + (13 * (names.length + 1) + 43) ≤ R.locals) (hRcells : cells + 1 ≤ R.cells) (hRslots : slots + 6 ≤ R.slots) (hlocks : meth.locks = false)
    (hx : ∀ t : State, s.vm.Alike t.vm → H.size ≤ t.heap.size → (∀ q : Nat, q < H.size → t.heap[q]? = H[q]?) → XC cls s t)
    (hf : ∀ z ∈ locs, free z.base) (hc : cells + 1 ≤ mc) (hs : slots + 6 ≤ ms) :
    W p l e R s m args below meth c H locs cells slots (vx_MQ below Qc XC args s mc ms free) (F0 m pc ls rest) := by
  intro T hT X
  have htr : e.platform.stackTraces = false := (show e.platform.stackTraces = l.stackTraces by rw [X.admits.platform]).trans hl
  have Y := vx_rebase X (R' := { frames := R.frames, locals := R.locals, cells := 1, slots := 6 }) (Nat.le_refl _) (Nat.le_refl _) hRcells hRslots
  obtain ⟨s', hA⟩ : ∃ z, z = (T.setVm s.vm).setFrames (.invoking m args :: below) := ⟨_, rfl⟩
  rw [← hA] at Y
  have hvm : s'.vm = s.vm := by rw [hA]; rfl
  have hhp : s'.heap = H := by rw [hA]; exact hT
  have hW0 : s.WarmedH s'.vm := by rw [hvm]; exact State.WarmedH.refl s
  have hat' : ∀ w ∈ vx_atS own ic cls names, w.before args s' = true := fun w hw => vx_ot_at hW0 hvm.symm (hgood w (List.mem_cons_of_mem _ (List.mem_cons_of_mem _ hw))) (hat w hw)
  have hk' : (Cond.classLink own ik cls).before args s' = true := vx_ot_at hW0 hvm.symm (hgood _ List.mem_cons_self) hk
  have hini' : (Cond.initialized cls).before args s' = true := vx_ot_at hW0 hvm.symm (hgood _ (List.mem_cons_of_mem _ List.mem_cons_self)) hini
  have hU' : vx_Zq Bundle.tN "UNASSIGNED_STACK" Bundle.steD A s' s'.heap := by rw [hhp]; exact vx_Zq.moved hW0.alike (hU.kept hS.2.1)
  have hN' : vx_Zq Bundle.tN "SUPPRESSED_SENTINEL" Bundle.listD A s' s'.heap := by rw [hhp]; exact vx_Zq.moved hW0.alike (hN.kept hS.2.1)
  have h : ∀ w ∈ Bundle.ownAtoms own ic cls names, w.before args s' = true := vx_own hat' (vx_isRefq hU'.1) (vx_isRefq hN'.1) hU'.2.word hN'.2.word
  have hown' : s'.vm.findClass own = some m.cls := by rw [hvm]; exact hown
  have hins : (Cond.instantiable cls 6).before args s' = true := h _ (by simp [Bundle.ownAtoms])
  obtain ⟨vm₁, cX, kX, hfX, hkX, -, -, X₁, st1⟩ := Y.newCold hexec (own := own) (C := cls) (index := ik) (n := 6) hown' hk' hins hini'
    (g := F0 m pc ls rest) rfl (by rw [hb]; exact d0) (Nat.le_refl _) (Nat.le_refl _)
  generalize hT1 : (T.setVm vm₁).pushCell { cls := cX, slots := kX.instanceTypes.map defaultValue, vm := .none } = T1 at X₁ st1
  have hcat : (Value.ref T.heap.size).category = 1 := rfl
  have hcellA : T1.heap[T.heap.size]? = some (freshCell cX kX) := by rw [← hT1]; exact State.heap_pushCell_size _ _
  have d3' : decode c.code (pc + 3) = .ok (.dup, 1) := by rw [hb]; exact d3
  have d4' : decode c.code (pc + 4) = .ok (.ldc_w is, 3) := by rw [hb]; exact d4
  have hstr' : vk_R own is text sa s' := vk_R.warm hW0 hstr
  obtain ⟨U, hsteps, hrun, hend, hW, hsame, ce, hce, hO⟩ := X₁.ctorThrowS hexec htr (own := own) (cls := cls) (names := names) (ic := ic) hown' hcls hnames h (fun x hx => nomatch hx) hfX hkX hcellA (by rw [hhp, hT]; exact Nat.le_refl _) (msg := .ref sa) rfl
    (g := { method := m, pc := pc + 7, locals := ls, stack := .ref sa :: .ref T.heap.size :: .ref T.heap.size :: rest, locked := none }) rfl hsize rfl rfl (rest := rest) rfl
    (by rw [hb]; exact d7) (by rw [hb]; exact d10) hout hRframes (by simp only [List.map_cons, List.sum_cons, hcat]; omega) hlocks
  obtain ⟨f1, f2⟩ := vx_frame hsame
  rw [hhp] at f1 f2
  have hWs : s.WarmedH U.vm := State.WarmedH.trans hW0 hW
  have hcl : s.vm.findClass cls = some ce.cls := by
    have h9 := hO.cls
    rw [hvm] at h9
    exact h9
  have hall : s.sameButNew ({ U with vm := s.vm } : State) locs mc ms := by
    subst hA
    obtain ⟨e1, e2⟩ := hsame
    rw [State.setFrames_setFrames] at e1
    have h2 : (T.setVm s.vm).sameButNew ({ U with vm := s.vm } : State) [] (0 + 1) (0 + 6) := ⟨e1, e2⟩
    have h3 := X.same.trans h2
    rw [List.append_nil] at h3
    exact h3.mono hc hs
  refine ⟨U, ?_, .threw T.heap.size, hrun, hend, Or.inr ⟨T.heap.size, rfl, cls, ce, locs, hx U hWs.alike f1 (fun q hq => f2 q hq (fun z hz => nomatch hz)), hce, hO.vm, hcl, hWs, hall, hf⟩⟩
  refine st1 _ ?_
  show Steps p.tables e below (T1.setTop { method := m, pc := pc + 3, locals := ls, stack := .ref T.heap.size :: rest, locked := none }) _
  jvm_step X₁.here [X₁.here.top, hexec, d3', Value.category]
  exact X₁.ldcStringW hexec (own := own) (text := text) (index := is) (a := sa) hown' hstr'.1 hstr'.2
    (g := { method := m, pc := pc + 4, locals := ls, stack := .ref T.heap.size :: .ref T.heap.size :: rest, locked := none }) rfl d4' _ hsteps
end Ends
section Bodies
variable {l : Launch}
theorem vx_ofW {y : MethodName} {ws ws' : List Cond} {rm : Room} {Pc : Array Value → State → Prop} {Qc : Array Value → State → Outcome → State → Prop} {XC : String → State → State → Prop} {mc ms : Nat} {free : Addr → Prop} {cc : ByteArray} {maxL : Nat} {ret : Option FieldType}
    (hy : plainName y.cls = true) (hw : ws = Cond.code y cc maxL ret :: ws')
    (body : ∀ p e s m args below meth c s₁, BodyLoose p l y (headSpec ws rm) cc maxL ret e s m args below meth c s₁ → c.maxLocals = maxL → (∀ x ∈ c.exceptionTable.toList, False) → Pc args s →
      W p l e (headSpec ws rm).room s m args below meth c s.heap [] 0 0 (vx_MQ below Qc XC args s mc ms free) (entryFrame m args maxL)) : vx_Met l y ws rm Pc Qc XC mc ms free := by
  refine MetFree.of_bodyS (code := cc) (maxLocals := maxL) (ret := ret) hy ?_ ?_
  · intro args s m h hn
    obtain ⟨meth, c, h1, h2, h3, h4, h5, h6, -, -⟩ := Cond.code_spec hn (atoms_spec (ws := ws) h _ (by rw [hw]; exact List.mem_cons_self))
    exact ⟨meth, c, h1, h2, h3, h4, h5, h6⟩
  · intro p e s m args below meth c s₁ B hml hP _
    have hh0 : s₁.heap = s.heap := by rw [B.state]; rfl
    have ht : ∀ x ∈ c.exceptionTable.toList, False := by
      obtain ⟨meth9, c9, h1, h2, -, -, -, -, h7, -⟩ := Cond.code_spec B.named (atoms_spec (ws := ws) B.pre _ (by rw [hw]; exact List.mem_cons_self))
      cases Option.some.inj (h1.symm.trans B.method)
      cases Option.some.inj (h2.symm.trans (Stand.of_body B).code)
      intro x hx
      rw [Array.isEmpty_iff.mp h7] at hx
      cases hx
    obtain ⟨t, a1, o, b1, b2, b3⟩ := body p e s m args below meth c s₁ B hml ht hP s₁ hh0 (Stand.of_body B)
    exact ⟨t, o, a1, b1, b2, b3⟩
/-- the table of a body with handlers -/
theorem vx_table {p : Program} {x y : MethodName} {S : Spec} {cc bytes : ByteArray} {maxL maxL' : Nat} {ret ret' : Option FieldType} {e : Env} {s s₁ : State} {m : MethodId} {args : Array Value} {below : List Frame} {meth : Method} {c : Code} {hh : List (Nat × Nat × Nat × Nat)}
    (B : BodyLoose p l y S cc maxL ret e s m args below meth c s₁) (h : (Cond.codeWith y bytes maxL' ret' hh).before args s = true) : c.exceptionTable.toList = tableOf hh := by
  obtain ⟨m9, meth9, c9, hn9, h1, h2, -, -, h6, -⟩ := Cond.codeWith_spec h
  cases Option.some.inj (hn9.symm.trans B.named)
  cases Option.some.inj (h1.symm.trans B.method)
  cases Option.some.inj (h2.symm.trans (Stand.of_body B).code)
  rw [← h6, table_eq]
end Bodies
end VXA
/-! ===== END ===== -/
/-! ===== BEGIN a static call of a method with an exception table ===== -/
section VXS
variable {p : Program} {l : Launch} {e : Env} {R : Room} {s : State} {m : MethodId} {args : Array Value} {below : List Frame} {meth : Method} {c : Code} {T : State} {H : Heap} {locs : List Loc} {cells slots : Nat}
abbrev vx_CSW (R : Room) (s : State) (args : Array Value) (own : String) (index : Nat) (y : MethodName) (bytes : ByteArray) (maxL : Nat) (ret : Option FieldType) (hh : List (Nat × Nat × Nat × Nat)) (ws : List Cond) (rm : Room) (mc ms n : Nat) : Prop :=
  (rm.cells = mc ∧ rm.slots = ms ∧ rm.frames + 1 ≤ R.frames ∧ 8 + (maxL + 11) + rm.locals ≤ R.locals ∧ (∀ w ∈ ws, ∀ (a' : Array Value) (U : State), s.WarmedH U.vm → w.before a' U = true) ∧ Cond.codeWith y bytes maxL ret hh ∈ ws) ∧
  (Cond.codeWith y bytes maxL ret hh).before args s = true ∧ (Cond.initialized y.cls).before args s = true ∧ (y.cls ≠ "java/lang/invoke/MethodHandle" ∧ y.cls ≠ "java/lang/invoke/VarHandle") ∧
  (∀ sig, parseMethodDescriptor y.desc = some sig → n = sig.parameters.length) ∧ (Cond.methodLink own index y).before args s = true ∧ (Cond.static y).before args s = true
theorem vx_cwSW {own : String} {index maxL mc ms : Nat} {y : MethodName} {bytes : ByteArray} {ret : Option FieldType} {hh : List (Nat × Nat × Nat × Nat)} {Ts ws ws' : List Cond} {rm : Room} (n : Nat) (ht : ∀ w ∈ Ts, w.before args s = true) (hT : GoodIn Ts (va_wsS own index y ws)) (hw : ws = Cond.codeWith y bytes maxL ret hh :: ws') (hrc : rm.cells = mc) (hrs : rm.slots = ms)
    (hd : y.cls ≠ "java/lang/invoke/MethodHandle" ∧ y.cls ≠ "java/lang/invoke/VarHandle" ∧ (parseMethodDescriptor y.desc).map (fun d => d.parameters.length) = some n) (hR : rm.frames + 1 ≤ R.frames ∧ 8 + (maxL + 11) + rm.locals ≤ R.locals) :
    vx_CSW R s args own index y bytes maxL ret hh ws rm mc ms n := by
  have ok : ∀ w ∈ va_wsS own index y ws, w.before args s = true := fun w h => ht w (hT w h).1
  have hG : GoodIn Ts ws := fun w h => hT w (by unfold va_wsS; exact List.mem_append_right _ h)
  have hc : Cond.codeWith y bytes maxL ret hh ∈ ws := by rw [hw]; exact List.mem_cons_self
  refine ⟨⟨hrc, hrs, hR.1, hR.2, pay_in ht hG, hc⟩, ht _ (hG _ hc).1, ok _ (by simp [va_wsS]), ⟨hd.1, hd.2.1⟩, fun sig h => ?_, ok _ (by simp [va_wsS]), ok _ (by simp [va_wsS])⟩
  have h2 := hd.2.2
  rw [h] at h2
  exact (Option.some.inj h2).symm
theorem vx_callSW (X : Stand p l e R s m args below meth c T locs cells slots) (hexec : p.tables.exec = Jvm.exec) {own : String} {index : Nat} {y : MethodName} {bytes : ByteArray} {maxL : Nat} {ret : Option FieldType} {hh : List (Nat × Nat × Nat × Nat)}
    (hown : s.vm.findClass own = some m.cls) (hlink : (Cond.methodLink own index y).before args s = true) (hstat : (Cond.static y).before args s = true) (hinit : (Cond.initialized y.cls).before args s = true)
    (hcode : (Cond.codeWith y bytes maxL ret hh).before args s = true) (hy : y.cls ≠ "java/lang/invoke/MethodHandle" ∧ y.cls ≠ "java/lang/invoke/VarHandle")
    {W9 : Nat} {Pre : Pt → Array Value → Prop} {Post : Pt → Array Value → Option Value → Pt → Prop} (hK : Back l R p e below s args y 3 W9 Pre Post)
    {g : JFrame} (hg : g.method = m) (hsize : g.locals.size = c.maxLocals) {argsL rest : List Value} (hlen : ∀ sig, parseMethodDescriptor y.desc = some sig → argsL.length = sig.parameters.length)
    (hstack : g.stack = argsL.reverse ++ rest) (hW : 2 * g.monitorRoom + (rest.map fun v => v.category).sum ≤ W9) (hdg : decode c.code g.pc = .ok (.invokestatic index, 3))
    (hpre : ∀ vm₁, s.WarmedH vm₁ → Pre ⟨T.setVm vm₁, locs, cells, slots⟩ argsL.toArray) :
    ∃ (v : Option Value) (vm₁ : Vm) (B : Pt), s.WarmedH vm₁ ∧ Stand p l e R s m args below meth c B.U B.locs B.cells B.slots ∧ Post ⟨T.setVm vm₁, locs, cells, slots⟩ argsL.toArray v B ∧
      ∀ target, Steps p.tables e below (B.U.setTop { g with pc := g.pc + 3, stack := v.toList ++ rest }) target → Steps p.tables e below (T.setTop g) target := by
  obtain ⟨mk, methM, cM, hnamed, hmethM, -, -, -, -, -, -, hsigM⟩ := Cond.codeWith_spec hcode
  have hstatic : methM.isStatic = true := Cond.static_spec hnamed hmethM hstat
  obtain ⟨kP, hkP, -⟩ := className_of_methodNamed hnamed
  have hinitP : kP.init = .initialized := Cond.initialized_spec (findClass_of_methodNamed hnamed) hkP hinit
  obtain ⟨vm₁, X₁, hstep₁⟩ := X.invokestatic hexec hown hlink hnamed hmethM hstatic hkP hinitP hy (g := g) hg (argsL := argsL) (rest := rest) (hlen _ hsigM) hstack hdg
  obtain ⟨v, B, X', hpost, hsteps⟩ := hK m meth c ⟨T.setVm vm₁, locs, cells, slots⟩ { g with stack := rest } (.invokestatic index) mk argsL.toArray X₁ hg hsize hdg hW (X₁.named hnamed) (hpre vm₁ X₁.warmed)
  exact ⟨v, vm₁, B, X₁.warmed, X', hpost, fun target h => hstep₁ _ fun acts => by rw [doInvoke_state]; exact hsteps.trans h⟩
theorem vx_runSW {y : MethodName} {bytes cc : ByteArray} {maxL nL mc ms n index : Nat} {ret : Option FieldType} {hh : List (Nat × Nat × Nat × Nat)} {ws : List Cond} {rm : Room} {Pc : Array Value → State → Prop} {Qc : Array Value → State → Outcome → State → Prop} {free : Addr → Prop} {Ts : List Cond} {own : String} {As rest : List Value} {g : JFrame}
    (S : CallFix p m c cc nL s args Ts own) (hM : Met l y ws rm Pc Qc mc ms free) (cw : vx_CSW R s args own index y bytes maxL ret hh ws rm mc ms n) (hp : PreS s H Pc As)
    (hg : g.method = m) (hn : As.length = n) (hsize : g.locals.size = nL) (hstack : g.stack = As.reverse ++ rest) (hW : 2 * g.monitorRoom + (rest.map fun v => v.category).sum ≤ 8) (hdg : decode cc g.pc = .ok (.invokestatic index, 3)) (hf : cells + mc ≤ R.cells ∧ slots + ms ≤ R.slots) :
    va_Run p l e R s m args below meth c H locs cells slots mc ms g rest (Qc As.toArray) (free) := by
  obtain ⟨⟨hrc, hrs, hfr, hlo, hws, hcw⟩, hcode, hini, hy, hlen, hl, hstt⟩ := cw
  have hK : Back l R p e below s args y 3 8 (PreOf R mc ms Pc) (PostOf Qc mc ms free) := va_backW (hh := hh) (bytes := bytes) (maxL := maxL) (ret := ret) hM hp.1 hrc hrs hfr hlo hws hcw (fun a' U hW => word_at hW (Or.inl (by first | rfl | simp [Cond.onTables, Cond.keeps, Cond.steady])) hini)
  obtain ⟨hx, hb, hml, ho, -⟩ := S
  intro T hT X
  obtain ⟨v, vm₁, ⟨U', l2, c2, s2⟩, hW₁, X', ⟨g', mk, t, L, e1, e2, hq, h1, hL, h2, h3⟩, st⟩ := vx_callSW X hx (hh := hh) (bytes := bytes) (maxL := maxL) (ret := ret) ho hl hstt hini hcode hy hK hg (hsize.trans hml.symm) (argsL := As) (rest := rest) (fun sig h => hn.trans (hlen sig h)) hstack hW (by rw [hb]; exact hdg)
    (fun vm₁ hW₁ => ⟨hf.1, hf.2, hp.2 (T.setVm vm₁) hT hW₁⟩)
  dsimp only [Pt.U, Pt.locs, Pt.cells, Pt.slots] at X' e1 e2 h1 h2 h3 st
  subst h1; subst h2; subst h3
  exact ⟨v, (T.setVm vm₁).calling g' mk As.toArray, t, U', L, hT, X', hL, e1, e2, hq, st⟩
/-- not caught here, past rows that name other classes: it goes on to the caller -/
theorem vx_outP {p : Program} {l : Launch} {e : Env} {R : Room} {s : State} {m : MethodId} {args : Array Value} {below : List Frame} {meth : Method} {c : Code} {H : Heap} {locs : List Loc} {cells slots : Nat} {free : Addr → Prop} {ls : Array Slot} {rest : List Value} {Qc : Array Value → State → Outcome → State → Prop} {XC : String → State → State → Prop}
    {pc : Nat} {own E : String} {ce : Cell} {q : Addr} {mc ms : Nat} (hown : s.vm.findClass own = some m.cls) (hlocks : meth.locks = false)
    (hpass : ∀ z ∈ c.exceptionTable.toList, covers z pc = false ∨ (z.catchType ≠ 0 ∧ ∃ nm : String, (Cond.classLink own z.catchType nm).before args s = true ∧ va_Nc E nm s)) (hcell : H[q]? = some ce) (hv : ce.vm = .none) (hcl : s.vm.findClass E = some ce.cls)
    (hx : ∀ t : State, t.heap = H → s.vm.Alike t.vm → XC E s t) (hf : ∀ z ∈ locs, free z.base) (hc : cells ≤ mc) (hs : slots ≤ ms) :
    vx_W p l e R s m args below meth c H locs cells slots (vx_MQ below Qc XC args s mc ms free) (F0 m pc ls rest) q := by
  intro T hT X
  have hpl : e.platform.magicAccessors = ({} : Platform).magicAccessors := by rw [X.admits.platform]
  obtain ⟨vm', hW', X', st⟩ := X.outThrough hlocks q (g := F0 m pc ls rest) rfl rfl rfl (cell := ce) (by rw [hT]; exact hcell) (by rw [hv]; rfl)
    (by obtain ⟨k9, h9, -⟩ := Vm.findClass_spec hcl; exact ⟨k9, h9⟩) (fun z hz => by
      rcases hpass z hz with h | ⟨hz0, nm, hl1, hn1⟩
      · exact Or.inl h
      · obtain ⟨c6, hc6, hcl6⟩ := Cond.classLink_spec hown hl1 e.platform hpl
        obtain ⟨a8, b8, h1, h2, h3⟩ := hn1
        cases Option.some.inj (h1.symm.trans hcl)
        cases Option.some.inj (h2.symm.trans hc6)
        exact Or.inr ⟨hz0, _, hcl6, h3⟩)
  obtain ⟨g₀, hfr⟩ := X'.frames_eq
  have hcell9 : ((T.setVm vm').setFrames (.throwing q :: below)).heap[q]? = some ce := by
    show T.heap[q]? = some ce
    rw [hT]; exact hcell
  have hend : Ended ((T.setVm vm').setFrames (.throwing q :: below)) below (.threw q) := State.frames_setFrames _ (State.cur_lt_of_frames hfr)
  refine ⟨(T.setVm vm').setFrames (.throwing q :: below), ?_, .threw q, X'.here.running, hend, Or.inr ⟨q, rfl, E, ce, locs, hx _ hT (X'.ends _).1.alike, hcell9, hv, hcl, (X'.ends _).1, (X'.ends _).2.mono hc hs, hf⟩⟩
  rw [X.pushThrowing_eq]
  exact st
/-- a thing of a world lies in the heap -/
theorem vx_lt {D : va_G} {cl : List vw_C} {ws : va_W} {H1 : Heap} (h : va_P D cl ws H1) {k : Nat} {q : Nat × va_E} (hk : ws[k]? = some q) : q.1 < H1.size := (h k q hk).lt
end VXS
/-! ===== END ===== -/
/-! ===== BEGIN methods with a table of their own: called by a name, returning or throwing ===== -/
section VXH
/-! vx_backW, vx_callVX, vx_callSX, vx_callVW, vx_runVW, vx_runVX, vx_runSX, vx_ofWH follow the same proofs as their sisters above (Free/Laws.lean, Shelf42/LK1.lean); vx_outP calls Shelf42/NT130.lean (outThrough). -/
section
variable {l : Launch} {R : Room} {p : Program} {e : Env} {below : List Frame} {s : State} {sargs : Array Value} {y : MethodName} {len W9 : Nat}
theorem vx_backW {ws : List Cond} {rm : Room} {Pc : Array Value → State → Prop} {Qc : Array Value → State → Outcome → State → Prop} {XC : String → State → State → Prop} {mc ms : Nat} {free : Addr → Prop} {bytes : ByteArray} {maxL : Nat} {ret : Option FieldType} {hh : List (Nat × Nat × Nat × Nat)}
    (hM : vx_Met l y ws rm Pc Qc XC mc ms free) (hblind : FrameBlind Pc) (hrc : rm.cells = mc) (hrs : rm.slots = ms)
    (hframes : rm.frames + 1 ≤ R.frames) (hlocals : W9 + (maxL + 11) + rm.locals ≤ R.locals)
    (hws : ∀ w ∈ ws, ∀ a' U, s.WarmedH U.vm → w.before a' U = true) (hcode : Cond.codeWith y bytes maxL ret hh ∈ ws) (hinit : ∀ a' U, s.WarmedH U.vm → (Cond.initialized y.cls).before a' U = true) :
    vx_Back l R p e below s sargs y len W9 (PreOf R mc ms Pc) (PostOf Qc mc ms free) (vx_Post XC mc ms free) := by
  intro m meth c A g ig mk a X hg hsize hdg hW hn hp
  have h1 : (headSpec ws rm).pre.before a A.U = true := atoms_intro fun w hw => hws w hw _ _ X.warmed
  have h2 : (Cond.codeWith y bytes maxL ret hh).before a A.U = true := hws _ hcode _ _ X.warmed
  have h3 : (Cond.initialized y.cls).before a A.U = true := hinit _ _ X.warmed
  have h4 : A.cells + (headSpec ws rm).room.cells ≤ R.cells := by rw [show (headSpec ws rm).room.cells = mc from hrc]; exact hp.1
  have h5 : A.slots + (headSpec ws rm).room.slots ≤ R.slots := by rw [show (headSpec ws rm).room.slots = ms from hrs]; exact hp.2.1
  have hPc : Pc a (A.U.calling g mk a) := hblind _ _ _ _ hp.2.2
  obtain ⟨U, Ls, c0, s0⟩ := A
  dsimp only [Pt.U, Pt.locs, Pt.cells, Pt.slots] at h1 h2 h3 h4 h5 X hn hPc ⊢
  obtain ⟨m9, methY, cY, hn9, hmY, hcY, -, hlY, -⟩ := Cond.codeWith_spec h2
  cases Option.some.inj (hn9.symm.trans hn)
  obtain ⟨kY, hkY, -⟩ := className_of_methodNamed hn
  have hinitY : kY.init = .initialized := Cond.initialized_spec (findClass_of_methodNamed hn) hkY h3
  have h : At U g.method c below := by rw [hg]; exact X.here
  have hlocals9 : W9 + (maxL + 11) + (headSpec ws rm).room.locals ≤ R.locals := hlocals
  have happ : (headSpec ws rm).appliesLoose y e.platform (U.calling g mk a) = true :=
    Spec.appliesLoose_calling (g := g) h hdg hn hkY hinitY
      (X.room_calling (g := g) (R' := (headSpec ws rm).room) hsize hmY hcY hframes (by rw [hlY]; omega) h4 h5) h1
  obtain ⟨mid, hmid⟩ := h.above
  have hfr : (U.setTop g).frames = (.java g :: mid) ++ below := by rw [State.frames_setTop' g h.top, hmid]; rfl
  obtain ⟨o, s₂, hsteps, -, hend, hq⟩ := Steps.callFree hM p X.admits X.cas X.clock (acts := []) hfr happ hPc trivial
  have hq' : vx_Q Qc XC mc ms free a (U.calling g mk a) o s₂ := hq
  rw [State.frames_setTop' g h.top] at hend
  obtain ⟨g₀, hg0⟩ := Option.isSome_iff_exists.mp h.top
  obtain ⟨r, hr⟩ := State.topJava?_eq_some.mp hg0
  have hr' : (({ U with heap := s₂.heap, slotsUsed := s₂.slotsUsed } : State).setVm s₂.vm).frames = .java g₀ :: r := hr
  rcases hq' with ⟨hqc, L, hfe, hL⟩ | ⟨q, rfl, E, ce, L, hx, hce, hcv, hcl, hW₂, hsm, hL⟩
  · obtain ⟨⟨v, rfl⟩, hW₂, e2, q2, q3, q4, q5, q6⟩ := id hfe
    have e3 : s₂ = ({ (U.calling g mk a).setFrames s₂.frames with heap := s₂.heap, slotsUsed := s₂.slotsUsed } : State).setVm s₂.vm := by
      have : s₂ = ({ s₂ with vm := (U.calling g mk a).vm } : State).setVm s₂.vm := rfl
      rw [e2] at this
      exact this
    obtain ⟨c₂, i₂, len₂, hc₂, hd₂, hf₂⟩ := hend
    have hW' : U.WarmedH s₂.vm := hW₂
    have hcc : c₂ = c := by
      have h1 : s₂.code? g.method = U.code? g.method := by
        rw [State.code?_eq, State.code?_eq, hW'.alike.method?]
      exact Option.some.inj (hc₂.symm.trans (h1.trans h.code))
    subst hcc
    have hlen : len₂ = len := by rw [hdg] at hd₂; cases hd₂; rfl
    subst hlen
    have hs₂ : s₂ = (({ U with heap := s₂.heap, slotsUsed := s₂.slotsUsed } : State).setVm s₂.vm).setTop { g with pc := g.pc + len₂, stack := v.toList ++ g.stack } := by
      refine e3.trans ?_
      rw [hf₂, State.calling_eq h.top, State.setFrames_setFrames, State.setTop_of_frames _ hr', hr]
      rfl
    have hsame : U.sameButNew ({ U with heap := s₂.heap, slotsUsed := s₂.slotsUsed } : State) L mc ms := by
      refine ⟨?_, q2, q3, q4, q5, q6⟩
      obtain ⟨t, ht, -⟩ := State.frames_cons hr
      show ({ U with heap := s₂.heap, slotsUsed := s₂.slotsUsed } : State) = { U.setFrames U.frames with heap := s₂.heap, slotsUsed := s₂.slotsUsed }
      rw [State.setFrames_self ht]
    subst hg
    refine Or.inl ⟨v, ⟨(({ U with heap := s₂.heap, slotsUsed := s₂.slotsUsed } : State).setVm s₂.vm), Ls ++ L, c0 + mc, s0 + ms⟩,
      ⟨X.admits, X.cas, X.clock, X.frames, X.room, X.hears, X.method, X.code, (X.here.setHeapUsed s₂.heap s₂.slotsUsed).setVm hW'.alike, X.tail, State.WarmedH.trans X.warmed hW', X.limits, X.bytes, X.same.trans (hsame.setVm s.vm)⟩,
      ⟨g, mk, s₂, L, rfl, rfl, hqc, rfl, hL, rfl, rfl⟩, ?_⟩
    show Steps p.tables e below _ ((({ U with heap := s₂.heap, slotsUsed := s₂.slotsUsed } : State).setVm s₂.vm).setTop { g with pc := g.pc + len₂, stack := v.toList ++ g.stack })
    rw [← hs₂]
    exact hsteps
  · obtain ⟨e2, q2, q3, q4, q5, q6⟩ := id hsm
    have e3 : s₂ = ({ (U.calling g mk a).setFrames s₂.frames with heap := s₂.heap, slotsUsed := s₂.slotsUsed } : State).setVm s₂.vm := by
      have : s₂ = ({ s₂ with vm := (U.calling g mk a).vm } : State).setVm s₂.vm := rfl
      rw [e2] at this
      exact this
    have hf₂ : s₂.frames = .throwing q :: .java g :: U.frames.tail := hend
    have hW' : U.WarmedH s₂.vm := hW₂
    have hs₂ : s₂ = ((({ U with heap := s₂.heap, slotsUsed := s₂.slotsUsed } : State).setVm s₂.vm).setTop g).pushFrame (.throwing q) := by
      refine e3.trans ?_
      rw [hf₂, State.calling_eq h.top, State.setFrames_setFrames, State.pushFrame, State.frames_setTop _ hr', State.setTop_of_frames _ hr', State.setFrames_setFrames, hr]
      rfl
    have hsame : U.sameButNew ({ U with heap := s₂.heap, slotsUsed := s₂.slotsUsed } : State) L mc ms := by
      refine ⟨?_, q2, q3, q4, q5, q6⟩
      obtain ⟨t, ht, -⟩ := State.frames_cons hr
      show ({ U with heap := s₂.heap, slotsUsed := s₂.slotsUsed } : State) = { U.setFrames U.frames with heap := s₂.heap, slotsUsed := s₂.slotsUsed }
      rw [State.setFrames_self ht]
    subst hg
    refine Or.inr ⟨q, ⟨(({ U with heap := s₂.heap, slotsUsed := s₂.slotsUsed } : State).setVm s₂.vm), Ls ++ L, c0 + mc, s0 + ms⟩,
      ⟨X.admits, X.cas, X.clock, X.frames, X.room, X.hears, X.method, X.code, (X.here.setHeapUsed s₂.heap s₂.slotsUsed).setVm hW'.alike, X.tail, State.WarmedH.trans X.warmed hW', X.limits, X.bytes, X.same.trans (hsame.setVm s.vm)⟩,
      ⟨g, mk, s₂, L, E, ce, rfl, rfl, hx, hce, hcv, hcl, rfl, hL, rfl, rfl⟩, ?_⟩
    show Steps p.tables e below _ (((({ U with heap := s₂.heap, slotsUsed := s₂.slotsUsed } : State).setVm s₂.vm).setTop g).pushFrame (.throwing q))
    rw [← hs₂]
    exact hsteps
end
variable {p : Program} {l : Launch} {e : Env} {R : Room} {s : State} {m : MethodId} {args : Array Value} {below : List Frame} {meth : Method} {c : Code} {T : State} {H : Heap} {locs : List Loc} {cells slots : Nat}
theorem vx_callVX (X : Stand p l e R s m args below meth c T locs cells slots) (hexec : p.tables.exec = Jvm.exec) {own C : String} {index : Nat} {y : MethodName} {bytes : ByteArray} {maxL : Nat} {ret : Option FieldType} {hh : List (Nat × Nat × Nat × Nat)}
    (hown : s.vm.findClass own = some m.cls) (hlink : (Cond.methodLink own index y).before args s = true) (hinst : (Cond.instanceMethod y).before args s = true) (hsel : (Cond.selects C y y).before args s = true)
    (hcode : (Cond.codeWith y bytes maxL ret hh).before args s = true) (hy : y.cls ≠ "java/lang/invoke/MethodHandle" ∧ y.cls ≠ "java/lang/invoke/VarHandle")
    {W9 : Nat} {Pre : Pt → Array Value → Prop} {Post : Pt → Array Value → Option Value → Pt → Prop} {PostX : Pt → Array Value → Addr → Pt → Prop} (hK : vx_Back l R p e below s args y 3 W9 Pre Post PostX)
    {b : Addr} {cellB : Cell} (hcell : T.heap[b]? = some cellB) (hobj : cellB.vm.isStatics = false) (hcls : s.vm.findClass C = some cellB.cls)
    {g : JFrame} (hg : g.method = m) (hsize : g.locals.size = c.maxLocals) {argsL rest : List Value} (hlen : ∀ sig, parseMethodDescriptor y.desc = some sig → argsL.length = sig.parameters.length)
    (hstack : g.stack = argsL.reverse ++ .ref b :: rest) (hW : 2 * g.monitorRoom + (rest.map fun v => v.category).sum ≤ W9) (hdg : decode c.code g.pc = .ok (.invokevirtual index, 3))
    (hpre : ∀ vm₁, s.WarmedH vm₁ → Pre ⟨T.setVm vm₁, locs, cells, slots⟩ (Value.ref b :: argsL).toArray) :
    (∃ (v : Option Value) (vm₁ : Vm) (B : Pt), s.WarmedH vm₁ ∧ Stand p l e R s m args below meth c B.U B.locs B.cells B.slots ∧ Post ⟨T.setVm vm₁, locs, cells, slots⟩ (Value.ref b :: argsL).toArray v B ∧
      ∀ target, Steps p.tables e below (B.U.setTop { g with pc := g.pc + 3, stack := v.toList ++ rest }) target → Steps p.tables e below (T.setTop g) target) ∨
    (∃ (q : Addr) (vm₁ : Vm) (B : Pt), s.WarmedH vm₁ ∧ Stand p l e R s m args below meth c B.U B.locs B.cells B.slots ∧ PostX ⟨T.setVm vm₁, locs, cells, slots⟩ (Value.ref b :: argsL).toArray q B ∧
      Steps p.tables e below (T.setTop g) ((B.U.setTop { g with stack := rest }).pushFrame (.throwing q))) := by
  obtain ⟨mk, methM, hnamed, hmethM, hstM, habM⟩ := Cond.instanceMethod_spec hinst
  obtain ⟨m8, methM', cM, hn8, hmethM', -, -, -, -, -, -, hsigM⟩ := Cond.codeWith_spec hcode
  cases Option.some.inj (hn8.symm.trans hnamed)
  cases hmethM.symm.trans hmethM'
  obtain ⟨c2, r2, m2, q1, q2, q3, q4, kP, hkP, hkPi⟩ := Cond.selects_spec hsel
  cases hcls.symm.trans q1
  cases (State.methodFound?_of_named hnamed hy).symm.trans q2
  cases hnamed.symm.trans q3
  have hselP : selectMethod e.platform s.vm cellB.cls mk = .method mk := by rw [Launch.admits_selectMethod X.admits]; exact q4
  obtain ⟨vm₁, X₁, hstep₁⟩ := X.invokevirtual hexec hown hlink hnamed hmethM hstM hkP hkPi hy (a := b) (cell := cellB) hcell
    (fun z h => by rw [h] at hobj; cases hobj) hselP hmethM habM hkP hkPi (g := g) hg (argsL := argsL) (rest := rest) (hlen _ hsigM) hstack hdg
  rcases hK m meth c ⟨T.setVm vm₁, locs, cells, slots⟩ { g with stack := rest } (.invokevirtual index) mk (Value.ref b :: argsL).toArray X₁ hg hsize hdg hW (X₁.named hnamed) (hpre vm₁ X₁.warmed) with ⟨v, B, X', hpost, hsteps⟩ | ⟨q, B, X', hpost, hsteps⟩
  · exact Or.inl ⟨v, vm₁, B, X₁.warmed, X', hpost, fun target h => hstep₁ _ fun acts => by rw [doInvoke_state]; exact hsteps.trans h⟩
  · exact Or.inr ⟨q, vm₁, B, X₁.warmed, X', hpost, hstep₁ _ fun acts => by rw [doInvoke_state]; exact hsteps⟩
theorem vx_callSX (X : Stand p l e R s m args below meth c T locs cells slots) (hexec : p.tables.exec = Jvm.exec) {own : String} {index : Nat} {y : MethodName} {bytes : ByteArray} {maxL : Nat} {ret : Option FieldType} {hh : List (Nat × Nat × Nat × Nat)}
    (hown : s.vm.findClass own = some m.cls) (hlink : (Cond.methodLink own index y).before args s = true) (hstat : (Cond.static y).before args s = true) (hinit : (Cond.initialized y.cls).before args s = true)
    (hcode : (Cond.codeWith y bytes maxL ret hh).before args s = true) (hy : y.cls ≠ "java/lang/invoke/MethodHandle" ∧ y.cls ≠ "java/lang/invoke/VarHandle")
    {W9 : Nat} {Pre : Pt → Array Value → Prop} {Post : Pt → Array Value → Option Value → Pt → Prop} {PostX : Pt → Array Value → Addr → Pt → Prop} (hK : vx_Back l R p e below s args y 3 W9 Pre Post PostX)
    {g : JFrame} (hg : g.method = m) (hsize : g.locals.size = c.maxLocals) {argsL rest : List Value} (hlen : ∀ sig, parseMethodDescriptor y.desc = some sig → argsL.length = sig.parameters.length)
    (hstack : g.stack = argsL.reverse ++ rest) (hW : 2 * g.monitorRoom + (rest.map fun v => v.category).sum ≤ W9) (hdg : decode c.code g.pc = .ok (.invokestatic index, 3))
    (hpre : ∀ vm₁, s.WarmedH vm₁ → Pre ⟨T.setVm vm₁, locs, cells, slots⟩ argsL.toArray) :
    (∃ (v : Option Value) (vm₁ : Vm) (B : Pt), s.WarmedH vm₁ ∧ Stand p l e R s m args below meth c B.U B.locs B.cells B.slots ∧ Post ⟨T.setVm vm₁, locs, cells, slots⟩ argsL.toArray v B ∧
      ∀ target, Steps p.tables e below (B.U.setTop { g with pc := g.pc + 3, stack := v.toList ++ rest }) target → Steps p.tables e below (T.setTop g) target) ∨
    (∃ (q : Addr) (vm₁ : Vm) (B : Pt), s.WarmedH vm₁ ∧ Stand p l e R s m args below meth c B.U B.locs B.cells B.slots ∧ PostX ⟨T.setVm vm₁, locs, cells, slots⟩ argsL.toArray q B ∧
      Steps p.tables e below (T.setTop g) ((B.U.setTop { g with stack := rest }).pushFrame (.throwing q))) := by
  obtain ⟨mk, methM, cM, hnamed, hmethM, -, -, -, -, -, -, hsigM⟩ := Cond.codeWith_spec hcode
  have hstatic : methM.isStatic = true := Cond.static_spec hnamed hmethM hstat
  obtain ⟨kP, hkP, -⟩ := className_of_methodNamed hnamed
  have hinitP : kP.init = .initialized := Cond.initialized_spec (findClass_of_methodNamed hnamed) hkP hinit
  obtain ⟨vm₁, X₁, hstep₁⟩ := X.invokestatic hexec hown hlink hnamed hmethM hstatic hkP hinitP hy (g := g) hg (argsL := argsL) (rest := rest) (hlen _ hsigM) hstack hdg
  rcases hK m meth c ⟨T.setVm vm₁, locs, cells, slots⟩ { g with stack := rest } (.invokestatic index) mk argsL.toArray X₁ hg hsize hdg hW (X₁.named hnamed) (hpre vm₁ X₁.warmed) with ⟨v, B, X', hpost, hsteps⟩ | ⟨q, B, X', hpost, hsteps⟩
  · exact Or.inl ⟨v, vm₁, B, X₁.warmed, X', hpost, fun target h => hstep₁ _ fun acts => by rw [doInvoke_state]; exact hsteps.trans h⟩
  · exact Or.inr ⟨q, vm₁, B, X₁.warmed, X', hpost, hstep₁ _ fun acts => by rw [doInvoke_state]; exact hsteps⟩
theorem vx_callVW (X : Stand p l e R s m args below meth c T locs cells slots) (hexec : p.tables.exec = Jvm.exec) {own C : String} {index : Nat} {y : MethodName} {bytes : ByteArray} {maxL : Nat} {ret : Option FieldType} {hh : List (Nat × Nat × Nat × Nat)}
    (hown : s.vm.findClass own = some m.cls) (hlink : (Cond.methodLink own index y).before args s = true) (hinst : (Cond.instanceMethod y).before args s = true) (hsel : (Cond.selects C y y).before args s = true)
    (hcode : (Cond.codeWith y bytes maxL ret hh).before args s = true) (hy : y.cls ≠ "java/lang/invoke/MethodHandle" ∧ y.cls ≠ "java/lang/invoke/VarHandle")
    {W9 : Nat} {Pre : Pt → Array Value → Prop} {Post : Pt → Array Value → Option Value → Pt → Prop} (hK : Back l R p e below s args y 3 W9 Pre Post)
    {b : Addr} {cellB : Cell} (hcell : T.heap[b]? = some cellB) (hobj : cellB.vm.isStatics = false) (hcls : s.vm.findClass C = some cellB.cls)
    {g : JFrame} (hg : g.method = m) (hsize : g.locals.size = c.maxLocals) {argsL rest : List Value} (hlen : ∀ sig, parseMethodDescriptor y.desc = some sig → argsL.length = sig.parameters.length)
    (hstack : g.stack = argsL.reverse ++ .ref b :: rest) (hW : 2 * g.monitorRoom + (rest.map fun v => v.category).sum ≤ W9) (hdg : decode c.code g.pc = .ok (.invokevirtual index, 3))
    (hpre : ∀ vm₁, s.WarmedH vm₁ → Pre ⟨T.setVm vm₁, locs, cells, slots⟩ (Value.ref b :: argsL).toArray) :
    ∃ (v : Option Value) (vm₁ : Vm) (B : Pt), s.WarmedH vm₁ ∧ Stand p l e R s m args below meth c B.U B.locs B.cells B.slots ∧ Post ⟨T.setVm vm₁, locs, cells, slots⟩ (Value.ref b :: argsL).toArray v B ∧
      ∀ target, Steps p.tables e below (B.U.setTop { g with pc := g.pc + 3, stack := v.toList ++ rest }) target → Steps p.tables e below (T.setTop g) target := by
  obtain ⟨mk, methM, hnamed, hmethM, hstM, habM⟩ := Cond.instanceMethod_spec hinst
  obtain ⟨m8, methM', cM, hn8, hmethM', -, -, -, -, -, -, hsigM⟩ := Cond.codeWith_spec hcode
  cases Option.some.inj (hn8.symm.trans hnamed)
  cases hmethM.symm.trans hmethM'
  obtain ⟨c2, r2, m2, q1, q2, q3, q4, kP, hkP, hkPi⟩ := Cond.selects_spec hsel
  cases hcls.symm.trans q1
  cases (State.methodFound?_of_named hnamed hy).symm.trans q2
  cases hnamed.symm.trans q3
  have hselP : selectMethod e.platform s.vm cellB.cls mk = .method mk := by rw [Launch.admits_selectMethod X.admits]; exact q4
  obtain ⟨vm₁, X₁, hstep₁⟩ := X.invokevirtual hexec hown hlink hnamed hmethM hstM hkP hkPi hy (a := b) (cell := cellB) hcell
    (fun z h => by rw [h] at hobj; cases hobj) hselP hmethM habM hkP hkPi (g := g) hg (argsL := argsL) (rest := rest) (hlen _ hsigM) hstack hdg
  obtain ⟨v, B, X', hpost, hsteps⟩ := hK m meth c ⟨T.setVm vm₁, locs, cells, slots⟩ { g with stack := rest } (.invokevirtual index) mk (Value.ref b :: argsL).toArray X₁ hg hsize hdg hW (X₁.named hnamed) (hpre vm₁ X₁.warmed)
  exact ⟨v, vm₁, B, X₁.warmed, X', hpost, fun target h => hstep₁ _ fun acts => by rw [doInvoke_state]; exact hsteps.trans h⟩
abbrev vx_CVW (R : Room) (s : State) (args : Array Value) (own C : String) (index : Nat) (y : MethodName) (bytes : ByteArray) (maxL : Nat) (ret : Option FieldType) (hh : List (Nat × Nat × Nat × Nat)) (ws : List Cond) (rm : Room) (mc ms n : Nat) : Prop :=
  (rm.cells = mc ∧ rm.slots = ms ∧ rm.frames + 1 ≤ R.frames ∧ 8 + (maxL + 11) + rm.locals ≤ R.locals ∧ (∀ w ∈ ws, ∀ (a' : Array Value) (U : State), s.WarmedH U.vm → w.before a' U = true) ∧ Cond.codeWith y bytes maxL ret hh ∈ ws) ∧
  (Cond.codeWith y bytes maxL ret hh).before args s = true ∧ (Cond.initialized y.cls).before args s = true ∧ (y.cls ≠ "java/lang/invoke/MethodHandle" ∧ y.cls ≠ "java/lang/invoke/VarHandle") ∧
  (∀ sig, parseMethodDescriptor y.desc = some sig → n = sig.parameters.length) ∧ (Cond.methodLink own index y).before args s = true ∧ (Cond.instanceMethod y).before args s = true ∧ (Cond.selects C y y).before args s = true
theorem vx_cwVW {own C : String} {index maxL mc ms : Nat} {y : MethodName} {bytes : ByteArray} {ret : Option FieldType} {hh : List (Nat × Nat × Nat × Nat)} {Ts ws ws' : List Cond} {rm : Room} (n : Nat) (ht : ∀ w ∈ Ts, w.before args s = true) (hT : GoodIn Ts (wsV own index C y ws)) (hw : ws = Cond.codeWith y bytes maxL ret hh :: ws') (hrc : rm.cells = mc) (hrs : rm.slots = ms)
    (hd : y.cls = C ∧ y.cls ≠ "java/lang/invoke/MethodHandle" ∧ y.cls ≠ "java/lang/invoke/VarHandle" ∧ (parseMethodDescriptor y.desc).map (fun d => d.parameters.length) = some n) (hR : rm.frames + 1 ≤ R.frames ∧ 8 + (maxL + 11) + rm.locals ≤ R.locals) :
    vx_CVW R s args own C index y bytes maxL ret hh ws rm mc ms n := by
  obtain ⟨hC, hd⟩ := hd
  subst hC
  have ok : ∀ w ∈ wsV own index y.cls y ws, w.before args s = true := fun w h => ht w (hT w h).1
  have hG : GoodIn Ts ws := fun w h => hT w (by unfold wsV; exact List.mem_append_right _ h)
  have hc : Cond.codeWith y bytes maxL ret hh ∈ ws := by rw [hw]; exact List.mem_cons_self
  refine ⟨⟨hrc, hrs, hR.1, hR.2, pay_in ht hG, hc⟩, ht _ (hG _ hc).1, ok _ (by simp [wsV]), ⟨hd.1, hd.2.1⟩, fun sig h => ?_, ok _ (by simp [wsV]), ok _ (by simp [wsV]), ok _ (by simp [wsV])⟩
  have h2 := hd.2.2
  rw [h] at h2
  exact (Option.some.inj h2).symm
theorem vx_runVW {y : MethodName} {bytes cc : ByteArray} {maxL nL mc ms n index : Nat} {ret : Option FieldType} {hh : List (Nat × Nat × Nat × Nat)} {ws : List Cond} {rm : Room} {Pc : Array Value → State → Prop} {Qc : Array Value → State → Outcome → State → Prop} {free : Addr → Prop} {Ts : List Cond} {own C : String} {b : Addr} {As rest : List Value} {g : JFrame}
    (S : CallFix p m c cc nL s args Ts own) (hM : Met l y ws rm Pc Qc mc ms free) (cw : vx_CVW R s args own C index y bytes maxL ret hh ws rm mc ms n) (hp : PreV s H C b Pc As)
    (hg : g.method = m) (hn : As.length = n) (hsize : g.locals.size = nL) (hstack : g.stack = As.reverse ++ .ref b :: rest) (hW : 2 * g.monitorRoom + (rest.map fun v => v.category).sum ≤ 8) (hdg : decode cc g.pc = .ok (.invokevirtual index, 3)) (hf : cells + mc ≤ R.cells ∧ slots + ms ≤ R.slots) :
    va_Run p l e R s m args below meth c H locs cells slots mc ms g rest (Qc (Value.ref b :: As).toArray) free := by
  obtain ⟨⟨hrc, hrs, hfr, hlo, hws, hcw⟩, hcode, hini, hy, hlen, hl, hin, hse⟩ := cw
  have hK : Back l R p e below s args y 3 8 (PreOf R mc ms Pc) (PostOf Qc mc ms free) := va_backW (hh := hh) (bytes := bytes) (maxL := maxL) (ret := ret) hM hp.1 hrc hrs hfr hlo hws hcw (fun a' U hW => word_at hW (Or.inl (by first | rfl | simp [Cond.onTables, Cond.keeps, Cond.steady])) hini)
  obtain ⟨hx, hb, hml, ho, -⟩ := S
  obtain ⟨-, ⟨cellB, hcB, hoB, hclB⟩, hPc⟩ := hp
  intro T hT X
  obtain ⟨v, vm₁, ⟨U', l2, c2, s2⟩, hW₁, X', ⟨g', mk, t, L, e1, e2, hq, h1, hL, h2, h3⟩, st⟩ := vx_callVW X hx (C := C) (hh := hh) (bytes := bytes) (maxL := maxL) (ret := ret) ho hl hin hse hcode hy hK (by rw [hT]; exact hcB) hoB hclB hg (hsize.trans hml.symm) (argsL := As) (rest := rest) (fun sig h => hn.trans (hlen sig h)) hstack hW (by rw [hb]; exact hdg)
    (fun vm₁ hW₁ => ⟨hf.1, hf.2, hPc (T.setVm vm₁) hT hW₁⟩)
  dsimp only [Pt.U, Pt.locs, Pt.cells, Pt.slots] at X' e1 e2 h1 h2 h3 st
  subst h1; subst h2; subst h3
  exact ⟨v, (T.setVm vm₁).calling g' mk (Value.ref b :: As).toArray, t, U', L, hT, X', hL, e1, e2, hq, st⟩
section
variable {y : MethodName} {bytes cc : ByteArray} {maxL nL mc ms n index : Nat} {ret : Option FieldType} {ws : List Cond} {rm : Room} {Pc : Array Value → State → Prop} {Qc : Array Value → State → Outcome → State → Prop} {XC : String → State → State → Prop} {free : Addr → Prop} {Ts : List Cond} {own C : String} {b : Addr} {As rest : List Value} {g : JFrame}
theorem vx_runVX {hh : List (Nat × Nat × Nat × Nat)} (S : CallFix p m c cc nL s args Ts own) (hM : vx_Met l y ws rm Pc Qc XC mc ms free) (cw : vx_CVW R s args own C index y bytes maxL ret hh ws rm mc ms n) (hp : PreV s H C b Pc As)
    (hg : g.method = m) (hn : As.length = n) (hsize : g.locals.size = nL) (hstack : g.stack = As.reverse ++ .ref b :: rest) (hW : 2 * g.monitorRoom + (rest.map fun v => v.category).sum ≤ 8) (hdg : decode cc g.pc = .ok (.invokevirtual index, 3)) (hf : cells + mc ≤ R.cells ∧ slots + ms ≤ R.slots) :
    vx_Run p l e R s m args below meth c H locs cells slots mc ms g rest (Qc (Value.ref b :: As).toArray) XC free := by
  obtain ⟨⟨hrc, hrs, hfr, hlo, hws, hcw⟩, hcode, hini, hy, hlen, hl, hin, hse⟩ := cw
  have hK : vx_Back l R p e below s args y 3 8 (PreOf R mc ms Pc) (PostOf Qc mc ms free) (vx_Post XC mc ms free) := vx_backW (hh := hh) (bytes := bytes) (maxL := maxL) (ret := ret) hM hp.1 hrc hrs hfr hlo hws hcw (fun a' U hW => word_at hW (Or.inl (by first | rfl | simp [Cond.onTables, Cond.keeps, Cond.steady])) hini)
  obtain ⟨hx, hb, hml, ho, -⟩ := S
  obtain ⟨-, ⟨cellB, hcB, hoB, hclB⟩, hPc⟩ := hp
  intro T hT X
  rcases vx_callVX X hx (C := C) (hh := hh) (bytes := bytes) (maxL := maxL) (ret := ret) ho hl hin hse hcode hy hK (by rw [hT]; exact hcB) hoB hclB hg (hsize.trans hml.symm) (argsL := As) (rest := rest) (fun sig h => hn.trans (hlen sig h)) hstack hW (by rw [hb]; exact hdg)
    (fun vm₁ hW₁ => ⟨hf.1, hf.2, hPc (T.setVm vm₁) hT hW₁⟩) with ⟨v, vm₁, ⟨U', l2, c2, s2⟩, hW₁, X', ⟨g', mk, t, L, e1, e2, hq, h1, hL, h2, h3⟩, st⟩ | ⟨q, vm₁, ⟨U', l2, c2, s2⟩, hW₁, X', ⟨g', mk, t, L, E, ce, e1, e2, hq, hce, hcv, hcl, h1, hL, h2, h3⟩, st⟩
  · dsimp only [Pt.U, Pt.locs, Pt.cells, Pt.slots] at X' e1 e2 h1 h2 h3 st
    subst h1; subst h2; subst h3
    exact Or.inl ⟨v, (T.setVm vm₁).calling g' mk (Value.ref b :: As).toArray, t, U', L, hT, X', hL, e1, e2, hq, st⟩
  · dsimp only [Pt.U, Pt.locs, Pt.cells, Pt.slots] at X' e1 e2 h1 h2 h3 st hcl
    subst h1; subst h2; subst h3
    exact Or.inr ⟨q, (T.setVm vm₁).calling g' mk (Value.ref b :: As).toArray, t, U', L, E, ce, hT, X', hL, e1, e2, hq, hce, hcv, vx_cls hW₁ hcl, st⟩
theorem vx_runSX {hh : List (Nat × Nat × Nat × Nat)} (S : CallFix p m c cc nL s args Ts own) (hM : vx_Met l y ws rm Pc Qc XC mc ms free) (cw : vx_CSW R s args own index y bytes maxL ret hh ws rm mc ms n) (hp : PreS s H Pc As)
    (hg : g.method = m) (hn : As.length = n) (hsize : g.locals.size = nL) (hstack : g.stack = As.reverse ++ rest) (hW : 2 * g.monitorRoom + (rest.map fun v => v.category).sum ≤ 8) (hdg : decode cc g.pc = .ok (.invokestatic index, 3)) (hf : cells + mc ≤ R.cells ∧ slots + ms ≤ R.slots) :
    vx_Run p l e R s m args below meth c H locs cells slots mc ms g rest (Qc As.toArray) XC free := by
  obtain ⟨⟨hrc, hrs, hfr, hlo, hws, hcw⟩, hcode, hini, hy, hlen, hl, hstt⟩ := cw
  have hK : vx_Back l R p e below s args y 3 8 (PreOf R mc ms Pc) (PostOf Qc mc ms free) (vx_Post XC mc ms free) := vx_backW (hh := hh) (bytes := bytes) (maxL := maxL) (ret := ret) hM hp.1 hrc hrs hfr hlo hws hcw (fun a' U hW => word_at hW (Or.inl (by first | rfl | simp [Cond.onTables, Cond.keeps, Cond.steady])) hini)
  obtain ⟨hx, hb, hml, ho, -⟩ := S
  intro T hT X
  rcases vx_callSX X hx (hh := hh) (bytes := bytes) (maxL := maxL) (ret := ret) ho hl hstt hini hcode hy hK hg (hsize.trans hml.symm) (argsL := As) (rest := rest) (fun sig h => hn.trans (hlen sig h)) hstack hW (by rw [hb]; exact hdg)
    (fun vm₁ hW₁ => ⟨hf.1, hf.2, hp.2 (T.setVm vm₁) hT hW₁⟩) with ⟨v, vm₁, ⟨U', l2, c2, s2⟩, hW₁, X', ⟨g', mk, t, L, e1, e2, hq, h1, hL, h2, h3⟩, st⟩ | ⟨q, vm₁, ⟨U', l2, c2, s2⟩, hW₁, X', ⟨g', mk, t, L, E, ce, e1, e2, hq, hce, hcv, hcl, h1, hL, h2, h3⟩, st⟩
  · dsimp only [Pt.U, Pt.locs, Pt.cells, Pt.slots] at X' e1 e2 h1 h2 h3 st
    subst h1; subst h2; subst h3
    exact Or.inl ⟨v, (T.setVm vm₁).calling g' mk As.toArray, t, U', L, hT, X', hL, e1, e2, hq, st⟩
  · dsimp only [Pt.U, Pt.locs, Pt.cells, Pt.slots] at X' e1 e2 h1 h2 h3 st hcl
    subst h1; subst h2; subst h3
    exact Or.inr ⟨q, (T.setVm vm₁).calling g' mk As.toArray, t, U', L, E, ce, hT, X', hL, e1, e2, hq, hce, hcv, vx_cls hW₁ hcl, st⟩
end
end VXH
theorem vx_ofWH {l : Launch} {y : MethodName} {ws ws' : List Cond} {rm : Room} {Pc : Array Value → State → Prop} {Qc : Array Value → State → Outcome → State → Prop} {XC : String → State → State → Prop} {mc ms : Nat} {free : Addr → Prop} {cc : ByteArray} {maxL : Nat} {ret : Option FieldType} {hh : List (Nat × Nat × Nat × Nat)}
    (hy : plainName y.cls = true) (hw : ws = Cond.codeWith y cc maxL ret hh :: ws')
    (body : ∀ p e s m args below meth c s₁, BodyLoose p l y (headSpec ws rm) cc maxL ret e s m args below meth c s₁ → c.maxLocals = maxL → Pc args s →
      W p l e (headSpec ws rm).room s m args below meth c s.heap [] 0 0 (vx_MQ below Qc XC args s mc ms free) (entryFrame m args maxL)) : vx_Met l y ws rm Pc Qc XC mc ms free := by
  refine MetFree.of_bodyS (code := cc) (maxLocals := maxL) (ret := ret) hy ?_ ?_
  · intro args s m h hn
    obtain ⟨m9, meth, c, hn9, h1, h2, h3, h4, -, h5, h6, -⟩ := Cond.codeWith_spec (atoms_spec (ws := ws) h _ (by rw [hw]; exact List.mem_cons_self))
    cases hn.symm.trans hn9
    exact ⟨meth, c, h1, h2, h3, h4, h5, h6⟩
  · intro p e s m args below meth c s₁ B hml hP _
    have hh0 : s₁.heap = s.heap := by rw [B.state]; rfl
    obtain ⟨t, a1, o, b1, b2, b3⟩ := body p e s m args below meth c s₁ B hml hP s₁ hh0 (Stand.of_body B)
    exact ⟨t, o, a1, b1, b2, b3⟩
/-! ===== END ===== -/

/-! ===== BEGIN what the machine throws by itself, no traces kept ===== -/
section VXM
set_option maxHeartbeats 1000000 in
/-- the machine throws cls with the message text, no traces kept: from its note over the frame g to 'throwing' over the same frame (follows the proofs of Stand.vmThrowsMessage, Shelf/KitTracedVmS.lean, and Stand.throwsMessageColdBareV, StandMessageColdV.lean, without the step out of the frame) -/
theorem vx_vmAt {p : Program} {l : Launch} {e : Env} {R : Room} {s : State} {m₀ : MethodId} {args : Array Value} {below : List Frame} {meth : Method} {c : Code} {W : State} {locs : List Loc} {cells slots : Nat}
    (X : Stand p l e R s m₀ args below meth c W locs cells slots) (hexec : p.tables.exec = Jvm.exec) (htr : e.platform.stackTraces = false) {cls : String} {names : List String} {text : String}
    (hcls : Bundle.fit cls = true) (hnames : ∀ n ∈ names, Bundle.fit n = true) (hsoe : (cls == "java/lang/StackOverflowError") = false) (hoom : (cls == "java/lang/OutOfMemoryError") = false)
    (h : ∀ a ∈ Bundle.messageArmAtoms cls names, a.before args s = true)
    (hlocs : ∀ x ∈ locs, ∀ cell, s.heap[x.base]? = some cell → cell.vm.isStatics = false)
    (htext : (text == notModelled) = false) (hlimit : ¬ (stringBytes (stringToUtf16 text)).size > e.platform.arrayLengthLimit) (hheap : ¬ (stringBytes (stringToUtf16 text)).size * componentBytes .byte > e.platform.maxHeapBytes)
    {g : JFrame} (hg : g.method = m₀) (hsize : g.locals.size = c.maxLocals)
    (hRframes : names.length + 4 < R.frames) (hRlocals : 2 * g.monitorRoom + (g.stack.map fun v => v.category).sum + 10240 ≤ R.locals) (hshort : 13 * names.length + 55 ≤ 10240)
    (hRcells : cells + 3 ≤ R.cells) (hRslots : slots + ((stringBytes (stringToUtf16 text)).size + 4 + 6) ≤ R.slots) (hlocks : meth.locks = false) :
    ∃ (S : State) (q : Addr) (ce : Cell), (∀ target, Steps p.tables e below ((S.setTop g).pushFrame (.throwing q)) target → Steps p.tables e below ((W.setTop g).pushFrame (.throwNew cls (some text) none)) target) ∧
      Stand p l e R s m₀ args below meth c S locs (cells + 3) (slots + ((stringBytes (stringToUtf16 text)).size + 4 + 6)) ∧ S.heap[q]? = some ce ∧ s.vm.findClass cls = some ce.cls ∧ ce.vm = .none := by
  have howns : e.platform.frameOwnsMonitors = true := by rw [X.admits.platform]
  have hfin : e.platform.finalization = false := by rw [X.admits.platform]
  have hpl : e.platform.magicAccessors = ({} : Platform).magicAccessors := by rw [X.admits.platform]
  have a : ∀ x, x ∈ Bundle.messageArmAtoms cls names → x.holds args s none s [] = true := fun x hx => h x hx
  obtain ⟨T, Z0, L, -, Y⟩ := ThrowableC.of_atoms (args := args) howns hfin hpl (fun x hx => h x (by simp [Bundle.messageArmAtoms, hx]))
  obtain ⟨Z, M, LZ, LM, hnZ⟩ := Init0T.ofS_atoms (args := args) hpl L Y (fun x hx => h x (by simp [Bundle.messageArmAtoms, hx]))
  obtain ⟨P1, Ps, hlen, L1, hL, hP1m, hlink1, hlink⟩ := Bundle.chainS (args := args) hpl hnZ names cls hcls hnames (fun x hx => h x (by simp [Bundle.messageArmAtoms, hx]))
  obtain ⟨Zs, LZs, hn4, hfitv, hfitc⟩ := StringT.of_atoms (args := args) (fun x hx => h x (by simp [Bundle.messageArmAtoms, hx]))
  have hfound : s.vm.findClass cls = some P1.m.cls := findClass_of_methodNamed hP1m
  obtain ⟨c1, kX, hc1, hk, hord, -, -, hn6⟩ := Cond.instantiable_spec (a (.instantiable cls 6) (by simp [Bundle.messageArmAtoms]))
  cases Option.some.inj (hc1.symm.trans hfound)
  have hinit := Cond.initialized_spec hfound hk (a (.initialized cls) (by simp [Bundle.messageArmAtoms]))
  have hctor : kX.findMethod "<init>" "(Ljava/lang/String;)V" = some P1.m.idx := findMethod_of_methodNamed hP1m hk
  have hsel0 : selectMethod e.platform s.vm P1.m.cls T.fill0 = .method T.fill0 := by
    obtain ⟨c2, r2, m2, q1, q2, q3, q4, -⟩ := Cond.selects_spec (a (.selects cls Bundle.tFill0 Bundle.tFill0) (by simp [Bundle.messageArmAtoms]))
    cases Option.some.inj (q1.symm.trans hfound)
    cases Option.some.inj (q2.symm.trans (State.methodFound?_of_named Y.fill0 (by decide)))
    cases Option.some.inj (q3.symm.trans Y.fill0)
    rw [Launch.admits_selectMethod X.admits]; exact q4
  have hselF : selectMethod e.platform s.vm P1.m.cls T.fill = .method T.fill := by
    obtain ⟨c2, r2, m2, q1, q2, q3, q4, -⟩ := Cond.selects_spec (a (.selects cls Bundle.tFill Bundle.tFill) (by simp [Bundle.messageArmAtoms]))
    cases Option.some.inj (q1.symm.trans hfound)
    cases Option.some.inj (q2.symm.trans (State.methodFound?_of_named Y.fill (by decide)))
    cases Option.some.inj (q3.symm.trans Y.fill)
    rw [Launch.admits_selectMethod X.admits]; exact q4
  obtain ⟨cellS0, hcS0, hiss⟩ := Y.statics
  obtain ⟨u0, hu0⟩ := Cond.staticRefV Y.unassigned L.unassignedStatic L.statics hcS0 hiss (a (.isRef (.static Bundle.tN "UNASSIGNED_STACK" Bundle.steD)) (by simp [Bundle.messageArmAtoms]))
  obtain ⟨sen, hsen⟩ := Cond.staticRefV Y.sentinel L.sentinelStatic L.statics hcS0 hiss (a (.isRef (.static Bundle.tN "SUPPRESSED_SENTINEL" Bundle.listD)) (by simp [Bundle.messageArmAtoms]))
  obtain ⟨ci198, i198, fB, hk198, hg198, ha198, hsB, -, hnB, htB, hffB⟩ := Cond.ownField (t := .object "java/lang/Object") Y.found L.cls (by decide +kernel) (a (.fieldLink Bundle.tN 198 Bundle.tN "backtrace" "Ljava/lang/Object;") (by simp [Bundle.messageArmAtoms])) (a (.lays Bundle.tN Bundle.tN "backtrace" "Ljava/lang/Object;") (by simp [Bundle.messageArmAtoms])) e.platform hpl
  obtain ⟨cellS, hcS', heS, -, hkeep⟩ := X.same.2.2.2.2.2 T.aS cellS0 hcS0
  have hcellS : W.heap[T.aS]? = some cellS := hcS'
  have hout' : ∀ i, (⟨T.aS, i⟩ : Loc) ∉ locs := fun i hmem => by
    have := hlocs _ hmem cellS0 hcS0
    rw [hiss] at this; cases this
  have hknownS : cellS.vm ≠ .unknown := by
    rw [heS]; intro hu
    rw [show cellS0.vm = .unknown from hu] at hiss
    cases hiss
  have hvU : cellS.slots[T.fUnassigned.slot]? = some u0.v := by rw [hkeep _ (hout' _)]; exact hu0
  have hvSen : cellS.slots[T.fSentinel.slot]? = some sen.v := by rw [hkeep _ (hout' _)]; exact hsen
  obtain ⟨iM, hffM⟩ := Y.msg
  obtain ⟨tyC, dC, hdC, hdnC⟩ := Cond.laysAt hfound hk Y.cause (a (.lays cls Bundle.tN "cause" "Ljava/lang/Throwable;") (by simp [Bundle.messageArmAtoms]))
  obtain ⟨tyS, dS, hdS, hdnS⟩ := Cond.laysAt hfound hk Y.stack (a (.lays cls Bundle.tN "stackTrace" Bundle.steD) (by simp [Bundle.messageArmAtoms]))
  obtain ⟨tyP, dP, hdP, hdnP⟩ := Cond.laysAt hfound hk Y.supp (a (.lays cls Bundle.tN "suppressedExceptions" Bundle.listD) (by simp [Bundle.messageArmAtoms]))
  obtain ⟨tyM, dM, hdM, hdnM⟩ := Cond.laysAt hfound hk hffM (a (.lays cls Bundle.tN "detailMessage" "Ljava/lang/String;") (by simp [Bundle.messageArmAtoms]))
  obtain ⟨tyB, dB, hdB, hdnB⟩ := Cond.laysAt hfound hk hffB (a (.lays cls Bundle.tN "backtrace" "Ljava/lang/Object;") (by simp [Bundle.messageArmAtoms]))
  have bC := Cond.laysApart hdB hdC hdnB hdnC (by rw [hnB, Y.causeName]; decide)
  have bS := Cond.laysApart hdB hdS hdnB hdnS (by rw [hnB, Y.stackName]; decide)
  have bP := Cond.laysApart hdB hdP hdnB hdnP (by rw [hnB, Y.suppName]; decide)
  have hbk : ((preparedCellV T.toThrowableT (freshCell P1.m.cls kX) (W.heap.size + 2) u0 sen).withEntry W.cur).slots[fB.slot]? = some .null := by
    have := fresh_default (c := P1.m.cls) tyB
    rw [htB] at this
    simpa [preparedCellV, Cell.setSlot, Cell.withEntry, Array.getElem?_setIfInBounds, bC, bS, bP, bC.symm, bS.symm, bP.symm, defaultValue] using this
  have tkC := Takes.of_laid (v := .ref (W.heap.size + 2)) hk hord tyC (by rw [Y.causeType]; rfl)
  have tkS := Takes.of_laid (v := u0.v) hk hord tyS (by rw [Y.stackType]; exact fits_refV_array _ u0)
  have tkP := Takes.of_laid (v := sen.v) hk hord tyP (by rw [Y.suppType]; exact fits_refV_object _ sen)
  have tkM := Takes.of_laid (v := .ref (W.heap.size + 1)) hk hord tyM (by rw [Y.msgType]; rfl)
  have hskip : SkipFacts T e.platform s (fun u => u) u0 ((preparedCellV T.toThrowableT (freshCell P1.m.cls kX) (W.heap.size + 2) u0 sen).withEntry W.cur) := ⟨{ ci198 := ci198, i198 := i198, fBack := fB }, ⟨hk198, hg198, ha198, hsB⟩, hbk, fun _ _ => rfl⟩
  have h0 : At W g.method c below := by rw [hg]; exact X.here
  obtain ⟨hbeyond, hfreeW⟩ := X.vmMayThrow hsize (.throwNew cls (some text) none) (fun f hf => by cases hf) rfl hRlocals
  have hfr' : W.frames.length + Ps.length + 4 < (e.platform.stackLimits W.me).1 := by have := X.framesAbove hRframes; omega
  have hwd' : (stackUse (.java g :: W.frames.tail)).2 + 13 * Ps.length + 55 ≤ (e.platform.stackLimits W.me).2 := by have := X.stackAbove hsize (K := 13 * Ps.length + 55) (by omega); omega
  have hslots : W.slotsUsed + (stringBytes (stringToUtf16 text)).size + Zs.kS.instanceTypes.size + kX.instanceTypes.size ≤ e.platform.maxSlots := by
    have := X.slotsAbove hRslots
    rw [hn4, hn6]
    omega
  obtain ⟨vm', hW', st⟩ := Steps.vmThrowsMessageColdByV p (s₀ := s) (S := W) (g := g) h0 hexec T L Z LZ M LM X.warmed (t := W.cur) rfl Zs LZs P1 L1 Ps hL hlink1 hlink hsoe hoom hfound hk hinit hord hctor
    (Launch.admits_hotImplicitExceptions X.admits) hbeyond hfreeW htext hlimit hheap (X.cellsAbove hRcells) hslots (hfitv _) (hfitc _)
    (Nn := fun u => u) heapOnly_id (fun _ _ => rfl) (fun _ => rfl) (fun u x y => setCell_twice _ _ _ _) (fun _ => Nat.le_refl _) (cN := ((preparedCellV T.toThrowableT (freshCell P1.m.cls kX) (W.heap.size + 2) u0 sen).withEntry W.cur))
    hsel0 hcellS hknownS hvU tkS (fun _ hu => hu) (fun _ hu => hu) rfl rfl rfl (by simp [preparedCellV, Cell.setSlot, Cell.withEntry]) hskip (fun _ _ hA hW _ hroom _ hrest => L.nativeOff p htr hA hW hroom hrest) hselF hvSen tkC tkP tkM Y.objLocals rfl hfr' hwd'
  rw [plainBareV_eq T.toThrowableT (W.heap.size + 2) u0 sen (.ref (W.heap.size + 1)) W.cur rfl rfl] at st
  obtain ⟨-, -, w3, w4, -, -, -⟩ := withThrown_facts e.platform W Zs text P1.m.cls kX
  have X3 := ((X.pushed (bytesOf Zs.cB (stringToUtf16 text))).pushed (stringAt Zs.cS Zs.kS Zs.fv Zs.fc (stringToUtf16 text) W.heap.size)).pushed (freshCell P1.m.cls kX)
  rw [← withString_eq] at X3
  have X4 := X3.noted hW'
  have ha : (W.heap.size + 2) < ((withThrown W Zs text P1.m.cls kX).setVm vm').heap.size := by show _ < (withThrown W Zs text P1.m.cls kX).heap.size; rw [w3]; omega
  have hcell : ((withThrown W Zs text P1.m.cls kX).setVm vm').heap[(W.heap.size + 2)]? = some (freshCell P1.m.cls kX) := w4
  have X5 := ((((X4.stored hcell T.fCause.slot (.ref (W.heap.size + 2))).storedAgain ha T.fStack.slot u0.v).storedAgain ha T.fSupp.slot sen.v).storedAgain ha T.fStack.slot u0.v).storedAgain ha T.fMsg.slot (.ref (W.heap.size + 1))
  obtain ⟨g₁, hfrM⟩ := X5.frames_eq
  have hU : ((((withThrown W Zs text P1.m.cls kX).setVm vm').setCell (W.heap.size + 2) (plainBareV T.toThrowableT (freshCell P1.m.cls kX) (W.heap.size + 2) u0 sen (.ref (W.heap.size + 1)))).setTop g).pushFrame (.throwing (W.heap.size + 2)) = (((withThrown W Zs text P1.m.cls kX).setVm vm').setCell (W.heap.size + 2) (plainBareV T.toThrowableT (freshCell P1.m.cls kX) (W.heap.size + 2) u0 sen (.ref (W.heap.size + 1)))).setFrames (.throwing (W.heap.size + 2) :: .java g :: below) := by
    rw [State.pushFrame, State.frames_setTop _ hfrM, State.setTop_of_frames _ hfrM, State.setFrames_setFrames]
  have b1 : (bytesOf Zs.cB (stringToUtf16 text)).slots.size = (stringBytes (stringToUtf16 text)).size := by
    rw [(Cell.writeAll_facts _ _).2.2]; simp [bytes0]
  have b2 : (stringAt Zs.cS Zs.kS Zs.fv Zs.fc (stringToUtf16 text) W.heap.size).slots.size = 4 := by simp [string0, Cell.setSlot, hn4]
  have b3 : (freshCell P1.m.cls kX).slots.size = 6 := by simp [hn6]
  rw [b1, b2, b3] at X5
  have e9 : slots + (stringBytes (stringToUtf16 text)).size + 4 + 6 = slots + ((stringBytes (stringToUtf16 text)).size + 4 + 6) := by omega
  rw [e9] at X5
  simp only [List.append_assoc, List.cons_append, List.nil_append] at X5
  refine ⟨((withThrown W Zs text P1.m.cls kX).setVm vm').setCell (W.heap.size + 2) (plainBareV T.toThrowableT (freshCell P1.m.cls kX) (W.heap.size + 2) u0 sen (.ref (W.heap.size + 1))), W.heap.size + 2, _, fun target ht => st _ (by rw [X.tail, ← hU]; exact ht),
    X5.forget (fun y hy => ?_), heapAt_setCell_self _ ha, hfound, rfl⟩
  simp only [List.mem_cons, List.not_mem_nil, or_false] at hy
  have hge : s.heap.size ≤ W.heap.size := X.same.2.1
  rcases hy with rfl | rfl | rfl | rfl | rfl <;> exact Nat.le_trans hge (Nat.le_add_right _ 2)
set_option maxHeartbeats 1000000 in
/-- the machine throws NullPointerException, no traces kept: from its note over the frame g to 'throwing' over the same frame (follows the proof of Stand.vmThrowsNpe, Shelf42/KT2.lean; throwsNpeColdBareVAt, Shelf42/NT91.lean, called) -/
theorem vx_npeAt {p : Program} {l : Launch} {e : Env} {R : Room} {s : State} {m₀ : MethodId} {args : Array Value} {below : List Frame} {meth : Method} {c : Code} {W : State} {locs : List Loc} {cells slots : Nat}
    (X : Stand p l e R s m₀ args below meth c W locs cells slots) (hexec : p.tables.exec = Jvm.exec) (htr : e.platform.stackTraces = false) {n : Nat}
    (h : ∀ a ∈ Bundle.npeArmAtoms n, a.before args s = true)
    (hlocs : ∀ x ∈ locs, ∀ cell, s.heap[x.base]? = some cell → cell.vm.isStatics = false)
    {g : JFrame} (hg : g.method = m₀) (hsize : g.locals.size = c.maxLocals)
    (hRframes : 7 < R.frames) (hRlocals : 2 * g.monitorRoom + (g.stack.map fun v => v.category).sum + 10240 ≤ R.locals)
    (hRcells : cells + 1 ≤ R.cells) (hRslots : slots + n ≤ R.slots) (hlocks : meth.locks = false) :
    ∃ (S : State) (q : Addr) (ce : Cell), (∀ target, Steps p.tables e below ((S.setTop g).pushFrame (.throwing q)) target → Steps p.tables e below ((W.setTop g).pushFrame (.throwNew "java/lang/NullPointerException" none none)) target) ∧
      Stand p l e R s m₀ args below meth c S locs (cells + 1) (slots + n) ∧ S.heap[q]? = some ce ∧ s.vm.findClass "java/lang/NullPointerException" = some ce.cls ∧ ce.vm = .none := by
  have howns : e.platform.frameOwnsMonitors = true := by rw [X.admits.platform]
  have hfin : e.platform.finalization = false := by rw [X.admits.platform]
  have hpl : e.platform.magicAccessors = ({} : Platform).magicAccessors := by rw [X.admits.platform]
  have hpl2 : e.platform.arrayCloneIsPublic = true := by rw [X.admits.platform]
  have a' : ∀ x, x ∈ Bundle.npeArmAtoms n → x.holds args s none s [] = true := fun x hx => h x hx
  obtain ⟨T, Z, L, LZ, Y⟩ := ThrowableC.of_atoms (args := args) howns hfin hpl (fun x hx => h x (by simp [Bundle.npeArmAtoms, hx]))
  obtain ⟨N, LN, hcN, hnNF, hordN, hffS⟩ := NpeC.of_atoms (args := args) hpl hpl2 L Y (fun x hx => h x (by simp [Bundle.npeArmAtoms, hx]))
  obtain ⟨P1, L1, hP1m, hP1s⟩ := PassC.of_atoms (args := args) (s := s) hpl (X := Bundle.nN) (Y := Bundle.rN) (by decide) (by decide) LibCode.NullPointerException.Init0.at_0 LibCode.NullPointerException.Init0.at_1 LibCode.NullPointerException.Init0.at_4 (fun x hx => h x (by simp [Bundle.npeArmAtoms, hx]))
  obtain ⟨PR, LR, hPRm, hPRs⟩ := PassC.of_atoms (args := args) (s := s) hpl (X := Bundle.rN) (Y := Bundle.eN) (by decide) (by decide) LibCode.RuntimeException.Init0.at_0 LibCode.RuntimeException.Init0.at_1 LibCode.RuntimeException.Init0.at_4 (fun x hx => h x (by simp [Bundle.npeArmAtoms, hx]))
  obtain ⟨PE, LEx, hPEm, hPEs⟩ := PassC.of_atoms (args := args) (s := s) hpl (X := Bundle.eN) (Y := Bundle.tN) (by decide) (by decide) LibCode.Exception.Init0.at_0 LibCode.Exception.Init0.at_1 LibCode.Exception.Init0.at_4 (fun x hx => h x (by simp [Bundle.npeArmAtoms, hx]))
  have hfound : s.vm.findClass Bundle.nN = some P1.m.cls := findClass_of_methodNamed hP1m
  have ecls : N.cN = P1.m.cls := Option.some.inj (hcN.symm.trans hfound)
  have hk : s.vm.classes[P1.m.cls]? = some N.kN := by rw [← ecls]; exact LN.cls
  have hinit := Cond.initialized_spec hfound hk (a' (.initialized Bundle.nN) (by simp [Bundle.npeArmAtoms]))
  have hctor : N.kN.findMethod "<init>" "()V" = some P1.m.idx := findMethod_of_methodNamed hP1m hk
  obtain ⟨c1, k1, hc1, hk1, -, -, -, hn⟩ := Cond.instantiable_spec (a' (.instantiable Bundle.nN n) (by simp [Bundle.npeArmAtoms]))
  cases Option.some.inj (hc1.symm.trans hfound)
  cases Option.some.inj (hk1.symm.trans hk)
  have hfsz : (freshCell P1.m.cls N.kN).slots.size = n := by simp [hn]
  have hlink1 : P1.sup = PR.m := Option.some.inj (hP1s.symm.trans hPRm)
  have hlinkR : PR.sup = PE.m := Option.some.inj (hPRs.symm.trans hPEm)
  have hlinkE : PE.sup = Z.m T.toThrowableT := Option.some.inj (hPEs.symm.trans Y.init0)
  have hLs : ∀ P, P ∈ [PR, PE] → P.Links0 e.platform s := fun P hP => by
    simp only [List.mem_cons, List.not_mem_nil, or_false] at hP
    rcases hP with rfl | rfl
    · exact LR
    · exact LEx
  have hsel0 : selectMethod e.platform s.vm P1.m.cls T.fill0 = .method T.fill0 := by
    obtain ⟨c2, r2, m2, q1, q2, q3, q4, -⟩ := Cond.selects_spec (a' (.selects Bundle.nN Bundle.tFill0 Bundle.tFill0) (by simp [Bundle.npeArmAtoms]))
    cases Option.some.inj (q1.symm.trans hfound)
    cases Option.some.inj (q2.symm.trans (State.methodFound?_of_named Y.fill0 (by decide)))
    cases Option.some.inj (q3.symm.trans Y.fill0)
    rw [Launch.admits_selectMethod X.admits]; exact q4
  have hselF : selectMethod e.platform s.vm P1.m.cls T.fill = .method N.fill := by
    obtain ⟨c2, r2, m2, q1, q2, q3, q4, -⟩ := Cond.selects_spec (a' (.selects Bundle.nN Bundle.tFill Bundle.nFill) (by simp [Bundle.npeArmAtoms]))
    cases Option.some.inj (q1.symm.trans hfound)
    cases Option.some.inj (q2.symm.trans (State.methodFound?_of_named Y.fill (by decide)))
    cases Option.some.inj (q3.symm.trans hnNF)
    rw [Launch.admits_selectMethod X.admits]; exact q4
  obtain ⟨cellS0, hcS0, hiss⟩ := Y.statics
  obtain ⟨u0, hu0⟩ := Cond.staticRefV Y.unassigned L.unassignedStatic L.statics hcS0 hiss (a' (.isRef (.static Bundle.tN "UNASSIGNED_STACK" Bundle.steD)) (by simp [Bundle.npeArmAtoms]))
  obtain ⟨sen, hsen⟩ := Cond.staticRefV Y.sentinel L.sentinelStatic L.statics hcS0 hiss (a' (.isRef (.static Bundle.tN "SUPPRESSED_SENTINEL" Bundle.listD)) (by simp [Bundle.npeArmAtoms]))
  obtain ⟨ci198, i198, fB, hk198, hg198, ha198, hsB, -, hnB, htB, hffB⟩ := Cond.ownField (t := .object "java/lang/Object") Y.found L.cls (by decide +kernel) (a' (.fieldLink Bundle.tN 198 Bundle.tN "backtrace" Bundle.objD) (by simp [Bundle.npeArmAtoms])) (a' (.lays Bundle.tN Bundle.tN "backtrace" Bundle.objD) (by simp [Bundle.npeArmAtoms])) e.platform hpl
  obtain ⟨cellS, hcS', heS, -, hkeep⟩ := X.same.2.2.2.2.2 T.aS cellS0 hcS0
  have hcellS : W.heap[T.aS]? = some cellS := hcS'
  have hout' : ∀ i, (⟨T.aS, i⟩ : Loc) ∉ locs := fun i hmem => by
    have := hlocs _ hmem cellS0 hcS0
    rw [hiss] at this; cases this
  have hknownS : cellS.vm ≠ .unknown := by
    rw [heS]; intro hu
    rw [show cellS0.vm = .unknown from hu] at hiss
    cases hiss
  have hvU : cellS.slots[T.fUnassigned.slot]? = some u0.v := by rw [hkeep _ (hout' _)]; exact hu0
  have hvSen : cellS.slots[T.fSentinel.slot]? = some sen.v := by rw [hkeep _ (hout' _)]; exact hsen
  obtain ⟨tyC, dC, hdC, hdnC⟩ := Cond.laysAt hfound hk Y.cause (a' (.lays Bundle.nN Bundle.tN "cause" "Ljava/lang/Throwable;") (by simp [Bundle.npeArmAtoms]))
  obtain ⟨tyS, dS, hdS, hdnS⟩ := Cond.laysAt hfound hk Y.stack (a' (.lays Bundle.nN Bundle.tN "stackTrace" Bundle.steD) (by simp [Bundle.npeArmAtoms]))
  obtain ⟨tyP, dP, hdP, hdnP⟩ := Cond.laysAt hfound hk Y.supp (a' (.lays Bundle.nN Bundle.tN "suppressedExceptions" Bundle.listD) (by simp [Bundle.npeArmAtoms]))
  obtain ⟨tyX, dX, hdX, hdnX⟩ := Cond.laysAt hfound hk hffS (a' (.lays Bundle.nN Bundle.nN "extendedMessageState" "I") (by simp [Bundle.npeArmAtoms, Bundle.npeAtoms]))
  obtain ⟨hnX, htX⟩ := State.fieldFound?_type hffS (t := .int) (by decide +kernel)
  have xC := Cond.laysApart hdC hdX hdnC hdnX (by rw [hnX, Y.causeName]; decide)
  have xS := Cond.laysApart hdS hdX hdnS hdnX (by rw [hnX, Y.stackName]; decide)
  have xP := Cond.laysApart hdP hdX hdnP hdnX (by rw [hnX, Y.suppName]; decide)
  have hv0 : (freshCell P1.m.cls N.kN).slots[N.fState.slot]? = some (.int 0) := by
    have := fresh_default (c := P1.m.cls) tyX
    rw [htX] at this; exact this
  obtain ⟨tyB, dB, hdB, hdnB⟩ := Cond.laysAt hfound hk hffB (a' (.lays Bundle.nN Bundle.tN "backtrace" Bundle.objD) (by simp [Bundle.npeArmAtoms]))
  have bC := Cond.laysApart hdB hdC hdnB hdnC (by rw [hnB, Y.causeName]; decide)
  have bS := Cond.laysApart hdB hdS hdnB hdnS (by rw [hnB, Y.stackName]; decide)
  have bP := Cond.laysApart hdB hdP hdnB hdnP (by rw [hnB, Y.suppName]; decide)
  have bX := Cond.laysApart hdB hdX hdnB hdnX (by rw [hnB, hnX]; decide)
  have hbk : ((npeCell N.toNpeT (preparedCellV T.toThrowableT (freshCell P1.m.cls N.kN) W.heap.size u0 sen) W.cur).withEntry W.cur).slots[fB.slot]? = some .null := by
    have := fresh_default (c := P1.m.cls) tyB
    rw [htB] at this
    simpa [npeCell, preparedCellV, Cell.setSlot, Cell.withEntry, Array.getElem?_setIfInBounds, bC, bS, bP, bX, bC.symm, bS.symm, bP.symm, bX.symm, defaultValue] using this
  have tkC := Takes.of_laid (v := .ref W.heap.size) hk hordN tyC (by rw [Y.causeType]; rfl)
  have tkS := Takes.of_laid (v := u0.v) hk hordN tyS (by rw [Y.stackType]; exact fits_refV_array _ u0)
  have tkP := Takes.of_laid (v := sen.v) hk hordN tyP (by rw [Y.suppType]; exact fits_refV_object _ sen)
  have tkX := Takes.of_laid (v := .int 1) hk hordN tyX (by rw [htX]; rfl)
  have hskip : SkipFacts T e.platform s (fun u => u) u0 ((npeCell N.toNpeT (preparedCellV T.toThrowableT (freshCell P1.m.cls N.kN) W.heap.size u0 sen) W.cur).withEntry W.cur) := ⟨{ ci198 := ci198, i198 := i198, fBack := fB }, ⟨hk198, hg198, ha198, hsB⟩, hbk, fun _ _ => rfl⟩
  obtain ⟨vm', X3, st, -⟩ := X.throwsNpeColdBareVAt hexec hg hsize T L Z LZ N LN P1 L1 [PR, PE] hLs hlink1 ⟨hlinkR, hlinkE, trivial⟩ hfound hk hinit hordN hctor hsel0 hselF hcellS hknownS hvU hvSen
    hv0 xC xS xP tkC tkS tkP tkX Y.objLocals hskip (fun _ _ hA hW _ hroom _ hrest => L.nativeOff p htr hA hW hroom hrest) (by simpa using hRframes) hRlocals (by simp) hRcells (by rw [hn]; exact hRslots)
  have hlt : W.heap.size < ((W.pushCell (freshCell P1.m.cls N.kN)).setVm vm').heap.size := by
    show W.heap.size < (W.pushCell (freshCell P1.m.cls N.kN)).heap.size
    rw [State.heap_size_pushCell]; omega
  rw [hfsz] at X3
  obtain ⟨g₁, hfrM⟩ := X3.frames_eq
  have hU : ((((W.pushCell (freshCell P1.m.cls N.kN)).setVm vm').setCell W.heap.size (npeBareV T.toThrowableT N.toNpeT (freshCell P1.m.cls N.kN) W.heap.size u0 sen)).setTop g).pushFrame (.throwing W.heap.size) = (((W.pushCell (freshCell P1.m.cls N.kN)).setVm vm').setCell W.heap.size (npeBareV T.toThrowableT N.toNpeT (freshCell P1.m.cls N.kN) W.heap.size u0 sen)).setFrames (.throwing W.heap.size :: .java g :: below) := by
    rw [State.pushFrame, State.frames_setTop _ hfrM, State.setTop_of_frames _ hfrM, State.setFrames_setFrames]
  refine ⟨_, W.heap.size, _, fun target ht => st.trans (by rw [← hU]; exact ht), X3.forget (fun y hy => ?_), heapAt_setCell_self _ hlt, hfound, rfl⟩
  simp only [List.mem_cons, List.not_mem_nil, or_false] at hy
  have hge : s.heap.size ≤ W.heap.size := X.same.2.1
  rcases hy with rfl | rfl | rfl | rfl | rfl <;> exact hge
/-- the words of a machine's NullPointerException, but the four that speak of the heap -/
def vx_atN (n : Nat) : List Cond := (Bundle.npeArmAtoms n).filter vx_no
/-- the words of a machine's throw with a message, but the four that speak of the heap -/
def vx_atM (X : String) (names : List String) : List Cond := (Bundle.messageArmAtoms X names).filter vx_no
section
variable {p : Program} {l : Launch} {e : Env} {R : Room} {s : State} {m : MethodId} {args : Array Value} {below : List Frame} {meth : Method} {c : Code} {H : Heap} {locs : List Loc} {cells slots : Nat}
/-- a frame seen from a rebased start, seen from the first start again -/
theorem vx_back9 {T S : State} {R' : Room} {k n : Nat} (X : Stand p l e R s m args below meth c T locs cells slots) (Y : Stand p l e R' ((T.setVm s.vm).setFrames (.invoking m args :: below)) m args below meth c T [] 0 0) (Z : Stand p l e R' ((T.setVm s.vm).setFrames (.invoking m args :: below)) m args below meth c S [] k n) :
    Stand p l e R s m args below meth c S locs (cells + k) (slots + n) := by
  have hW0 : s.WarmedH ((T.setVm s.vm).setFrames (.invoking m args :: below)).vm := State.WarmedH.refl s
  refine { admits := X.admits, cas := X.cas, clock := X.clock, frames := X.frames, room := X.room, hears := X.hears, method := X.method, code := X.code, here := Z.here, tail := Z.tail, warmed := State.WarmedH.trans hW0 Z.warmed, limits := Z.limits.trans (Y.limits.symm.trans X.limits), bytes := Z.bytes.trans (Y.bytes.symm.trans X.bytes), same := ?_ }
  obtain ⟨e1, e2⟩ := Z.same
  rw [State.setFrames_setFrames] at e1
  have h2 : (T.setVm s.vm).sameButNew (S.setVm s.vm) [] k n := ⟨e1, e2⟩
  have h3 := X.same.trans h2
  rw [List.append_nil] at h3
  exact h3
/-- from the machine's note that E is thrown here with this text -/
def vx_Note (p : Program) (l : Launch) (e : Env) (R : Room) (s : State) (m : MethodId) (args : Array Value) (below : List Frame) (meth : Method) (c : Code) (H : Heap) (locs : List Loc) (cells slots : Nat) (Q : State → Prop) (g : JFrame) (E text : String) : Prop :=
  ∀ T : State, T.heap = H → Stand p l e R s m args below meth c T locs cells slots → ∃ t, Steps p.tables e below ((T.setTop g).pushFrame (.throwNew E (some text) none)) t ∧ Q t
theorem vx_vm {pc : Nat} {ls : Array Slot} {rest : List Value} {Q : State → Prop} (hexec : p.tables.exec = Jvm.exec) (hl : l.stackTraces = false) {cls text : String} {names : List String} {nb : Nat} {A : Nat → Prop}
    (hcls : Bundle.fit cls = true) (hnames : ∀ n ∈ names, Bundle.fit n = true) (hsoe : (cls == "java/lang/StackOverflowError") = false) (hoom : (cls == "java/lang/OutOfMemoryError") = false)
    (hat : ∀ w ∈ vx_atM cls names, w.before args s = true) (hgood : ∀ w ∈ vx_atM cls names, vx_ot w = true)
    (hU : vx_Zq Bundle.tN "UNASSIGNED_STACK" Bundle.steD A s s.heap) (hN : vx_Zq Bundle.tN "SUPPRESSED_SENTINEL" Bundle.listD A s s.heap) (hS : va_S A s.heap H locs) (hsize : ls.size = c.maxLocals)
    (htext : (text == notModelled) = false) (hnb : (stringBytes (stringToUtf16 text)).size ≤ nb) (hnb1 : nb ≤ 1000)
    (hRframes : names.length + 4 < R.frames) (hRlocals : (rest.map fun v => v.category).sum + 10240 ≤ R.locals) (hshort : 13 * names.length + 55 ≤ 10240) (hRcells : cells + 3 ≤ R.cells) (hRslots : slots + (nb + 10) ≤ R.slots) (hlocks : meth.locks = false)
    (k : ∀ (H1 : Heap) (q9 : Addr) (ce : Cell), H.size ≤ H1.size → (∀ q : Nat, q < H.size → H1[q]? = H[q]?) → va_S A s.heap H1 locs → H1[q9]? = some ce → ce.vm = .none → s.vm.findClass cls = some ce.cls → vx_W p l e R s m args below meth c H1 locs (cells + 3) (slots + (nb + 10)) Q (F0 m pc ls rest) q9) :
    vx_Note p l e R s m args below meth c H locs cells slots Q (F0 m pc ls rest) cls text := by
  intro T hT X
  have htr : e.platform.stackTraces = false := (show e.platform.stackTraces = l.stackTraces by rw [X.admits.platform]).trans hl
  have Y := vx_rebase X (R' := { frames := R.frames, locals := R.locals, cells := 3, slots := nb + 10 }) (Nat.le_refl _) (Nat.le_refl _) hRcells hRslots
  have hhp : ((T.setVm s.vm).setFrames (.invoking m args :: below)).heap = H := hT
  have hW0 : s.WarmedH ((T.setVm s.vm).setFrames (.invoking m args :: below)).vm := State.WarmedH.refl s
  have hat' : ∀ w ∈ vx_atM cls names, w.before args ((T.setVm s.vm).setFrames (.invoking m args :: below)) = true := fun w hw => vx_ot_at hW0 rfl (hgood w hw) (hat w hw)
  have hU' : vx_Zq Bundle.tN "UNASSIGNED_STACK" Bundle.steD A ((T.setVm s.vm).setFrames (.invoking m args :: below)) ((T.setVm s.vm).setFrames (.invoking m args :: below)).heap := by rw [hhp]; exact vx_Zq.moved hW0.alike (hU.kept hS.2.1)
  have hN' : vx_Zq Bundle.tN "SUPPRESSED_SENTINEL" Bundle.listD A ((T.setVm s.vm).setFrames (.invoking m args :: below)) ((T.setVm s.vm).setFrames (.invoking m args :: below)).heap := by rw [hhp]; exact vx_Zq.moved hW0.alike (hN.kept hS.2.1)
  obtain ⟨S, q, ce, st, Z, hce, hcl', hv⟩ := vx_vmAt Y hexec htr (cls := cls) (names := names) (text := text) hcls hnames hsoe hoom (vx_own hat' (vx_isRefq hU'.1) (vx_isRefq hN'.1) hU'.2.word hN'.2.word) (fun x hx => nomatch hx) htext
    (by rw [Launch.admits_arrayLengthLimit X.admits]; omega) (by rw [Launch.admits_maxHeapBytes X.admits]; simp only [componentBytes]; omega)
    (g := F0 m pc ls rest) rfl hsize hRframes (by show 2 * 0 + (rest.map fun v => v.category).sum + 10240 ≤ R.locals; omega) hshort (by show 0 + 3 ≤ 3; omega) (by show 0 + (_ + 4 + 6) ≤ nb + 10; omega) hlocks
  obtain ⟨f1, f2⟩ := vx_frame Z.same
  have f1' : H.size ≤ S.heap.size := by rw [← hT]; exact f1
  have f2' : ∀ q : Nat, q < H.size → S.heap[q]? = H[q]? := fun q hq => by
    rw [← hT]
    exact f2 q (by rw [← hT] at hq; exact hq) (fun z hz => nomatch hz)
  have X5 := vx_back9 X Y Z
  have X6 : Stand p l e R s m args below meth c S locs (cells + 3) (slots + (nb + 10)) := { X5 with same := X5.same.mono (by omega) (by omega) }
  obtain ⟨t, a1, b1⟩ := k S.heap q ce f1' f2' ⟨Nat.le_trans hS.1 f1', fun q h1 h2 => (f2' q (Nat.lt_of_lt_of_le h1 hS.1)).trans (hS.2.1 q h1 h2), hS.2.2⟩ hce hv hcl' S rfl X6
  exact ⟨t, st t a1, b1⟩
/-- from the machine's note that NullPointerException is thrown here -/
def vx_NoteN (p : Program) (l : Launch) (e : Env) (R : Room) (s : State) (m : MethodId) (args : Array Value) (below : List Frame) (meth : Method) (c : Code) (H : Heap) (locs : List Loc) (cells slots : Nat) (Q : State → Prop) (g : JFrame) : Prop :=
  ∀ T : State, T.heap = H → Stand p l e R s m args below meth c T locs cells slots → ∃ t, Steps p.tables e below ((T.setTop g).pushFrame (.throwNew "java/lang/NullPointerException" none none)) t ∧ Q t
theorem vx_npe {pc : Nat} {ls : Array Slot} {rest : List Value} {Q : State → Prop} (hexec : p.tables.exec = Jvm.exec) (hl : l.stackTraces = false) {nb : Nat} {A : Nat → Prop}
    (hat : ∀ w ∈ vx_atN nb, w.before args s = true) (hgood : ∀ w ∈ vx_atN nb, vx_ot w = true)
    (hU : vx_Zq Bundle.tN "UNASSIGNED_STACK" Bundle.steD A s s.heap) (hN : vx_Zq Bundle.tN "SUPPRESSED_SENTINEL" Bundle.listD A s s.heap) (hS : va_S A s.heap H locs) (hsize : ls.size = c.maxLocals)
    (hRframes : 7 < R.frames) (hRlocals : (rest.map fun v => v.category).sum + 10240 ≤ R.locals) (hRcells : cells + 1 ≤ R.cells) (hRslots : slots + nb ≤ R.slots) (hlocks : meth.locks = false)
    (k : ∀ (H1 : Heap) (q9 : Addr) (ce : Cell), H.size ≤ H1.size → (∀ q : Nat, q < H.size → H1[q]? = H[q]?) → va_S A s.heap H1 locs → H1[q9]? = some ce → ce.vm = .none → s.vm.findClass "java/lang/NullPointerException" = some ce.cls → vx_W p l e R s m args below meth c H1 locs (cells + 1) (slots + nb) Q (F0 m pc ls rest) q9) :
    vx_NoteN p l e R s m args below meth c H locs cells slots Q (F0 m pc ls rest) := by
  intro T hT X
  have htr : e.platform.stackTraces = false := (show e.platform.stackTraces = l.stackTraces by rw [X.admits.platform]).trans hl
  have Y := vx_rebase X (R' := { frames := R.frames, locals := R.locals, cells := 1, slots := nb }) (Nat.le_refl _) (Nat.le_refl _) hRcells hRslots
  have hhp : ((T.setVm s.vm).setFrames (.invoking m args :: below)).heap = H := hT
  have hW0 : s.WarmedH ((T.setVm s.vm).setFrames (.invoking m args :: below)).vm := State.WarmedH.refl s
  have hat' : ∀ w ∈ vx_atN nb, w.before args ((T.setVm s.vm).setFrames (.invoking m args :: below)) = true := fun w hw => vx_ot_at hW0 rfl (hgood w hw) (hat w hw)
  have hU' : vx_Zq Bundle.tN "UNASSIGNED_STACK" Bundle.steD A ((T.setVm s.vm).setFrames (.invoking m args :: below)) ((T.setVm s.vm).setFrames (.invoking m args :: below)).heap := by rw [hhp]; exact vx_Zq.moved hW0.alike (hU.kept hS.2.1)
  have hN' : vx_Zq Bundle.tN "SUPPRESSED_SENTINEL" Bundle.listD A ((T.setVm s.vm).setFrames (.invoking m args :: below)) ((T.setVm s.vm).setFrames (.invoking m args :: below)).heap := by rw [hhp]; exact vx_Zq.moved hW0.alike (hN.kept hS.2.1)
  obtain ⟨S, q, ce, st, Z, hce, hcl', hv⟩ := vx_npeAt Y hexec htr (n := nb) (vx_own hat' (vx_isRefq hU'.1) (vx_isRefq hN'.1) hU'.2.word hN'.2.word) (fun x hx => nomatch hx)
    (g := F0 m pc ls rest) rfl hsize hRframes (by show 2 * 0 + (rest.map fun v => v.category).sum + 10240 ≤ R.locals; omega) (by show 0 + 1 ≤ 1; omega) (by show 0 + nb ≤ nb; omega) hlocks
  obtain ⟨f1, f2⟩ := vx_frame Z.same
  have f1' : H.size ≤ S.heap.size := by rw [← hT]; exact f1
  have f2' : ∀ q : Nat, q < H.size → S.heap[q]? = H[q]? := fun q hq => by
    rw [← hT]
    exact f2 q (by rw [← hT] at hq; exact hq) (fun z hz => nomatch hz)
  have X5 := vx_back9 X Y Z
  have X6 : Stand p l e R s m args below meth c S locs (cells + 1) (slots + nb) := { X5 with same := X5.same.mono (by omega) (by omega) }
  obtain ⟨t, a1, b1⟩ := k S.heap q ce f1' f2' ⟨Nat.le_trans hS.1 f1', fun q h1 h2 => (f2' q (Nat.lt_of_lt_of_le h1 hS.1)).trans (hS.2.1 q h1 h2), hS.2.2⟩ hce hv hcl' S rfl X6
  exact ⟨t, st t a1, b1⟩
variable {Q : State → Prop} {cc : ByteArray} {pc : Nat} {ls : Array Slot} {rest : List Value}
theorem vx_idivZ (hexec : p.tables.exec = Jvm.exec) (hb : c.code = cc) {a b : Int32} (h0 : b = 0) (d : decode cc pc = .ok (.idiv, 1)) (k : vx_Note p l e R s m args below meth c H locs cells slots Q (F0 m pc ls rest) "java/lang/ArithmeticException" "/ by zero") :
    W p l e R s m args below meth c H locs cells slots Q (F0 m pc ls (.int b :: .int a :: rest)) := by
  intro T hT X
  obtain ⟨t, st, q⟩ := k T hT X
  exact ⟨t, X.idivZero hexec (g := F0 m pc ls (.int b :: .int a :: rest)) rfl (a := a) (rest := rest) (by rw [h0]) (by rw [hb]; exact d) t st, q⟩
theorem vx_iremZ (hexec : p.tables.exec = Jvm.exec) (hb : c.code = cc) {a b : Int32} (h0 : b = 0) (d : decode cc pc = .ok (.irem, 1)) (k : vx_Note p l e R s m args below meth c H locs cells slots Q (F0 m pc ls rest) "java/lang/ArithmeticException" "/ by zero") :
    W p l e R s m args below meth c H locs cells slots Q (F0 m pc ls (.int b :: .int a :: rest)) := by
  intro T hT X
  obtain ⟨t, st, q⟩ := k T hT X
  exact ⟨t, X.iremZero hexec (g := F0 m pc ls (.int b :: .int a :: rest)) rfl (a := a) (rest := rest) (by rw [h0]) (by rw [hb]; exact d) t st, q⟩
theorem vx_ldivZ (hexec : p.tables.exec = Jvm.exec) (hb : c.code = cc) {a b : Int64} (h0 : b = 0) (d : decode cc pc = .ok (.ldiv, 1)) (k : vx_Note p l e R s m args below meth c H locs cells slots Q (F0 m pc ls rest) "java/lang/ArithmeticException" "/ by zero") :
    W p l e R s m args below meth c H locs cells slots Q (F0 m pc ls (.long b :: .long a :: rest)) := by
  intro T hT X
  obtain ⟨t, st, q⟩ := k T hT X
  exact ⟨t, X.ldivZero hexec (g := F0 m pc ls (.long b :: .long a :: rest)) rfl (a := a) (rest := rest) (by rw [h0]) (by rw [hb]; exact d) t st, q⟩
theorem vx_lremZ (hexec : p.tables.exec = Jvm.exec) (hb : c.code = cc) {a b : Int64} (h0 : b = 0) (d : decode cc pc = .ok (.lrem, 1)) (k : vx_Note p l e R s m args below meth c H locs cells slots Q (F0 m pc ls rest) "java/lang/ArithmeticException" "/ by zero") :
    W p l e R s m args below meth c H locs cells slots Q (F0 m pc ls (.long b :: .long a :: rest)) := by
  intro T hT X
  obtain ⟨t, st, q⟩ := k T hT X
  exact ⟨t, X.lremZero hexec (g := F0 m pc ls (.long b :: .long a :: rest)) rfl (a := a) (rest := rest) (by rw [h0]) (by rw [hb]; exact d) t st, q⟩
theorem vx_ialdZ {D : va_G} {cl : List vw_C} {ws : va_W} {tys : List (ClassId × FieldType)} {a : Nat} (hexec : p.tables.exec = Jvm.exec) (hb : c.code = cc) (hK : va_K D cl tys s) (hP : va_P D cl ws H) (q0 t0 : Nat) {cA : ClassId} {n : Nat} {f : Nat → Int32} (ha : ws[q0]? = some (a, .inl (cA, n, .inl f))) (ht : tys[t0]? = some (cA, .int)) {i : Int32} (hout : ¬ vp_in i n) (hdg : decode cc pc = .ok (.iaload, 1))
    (k : ∀ tx : String, tx = (toString "Index " ++ toString i ++ toString " out of bounds for length " ++ toString n : String) → vx_Note p l e R s m args below meth c H locs cells slots Q (F0 m pc ls rest) "java/lang/ArrayIndexOutOfBoundsException" tx) : W p l e R s m args below meth c H locs cells slots Q (F0 m pc ls (.int i :: .ref a :: rest)) := by
  intro T hT X
  obtain ⟨t, st, q⟩ := k _ rfl T hT X
  refine ⟨t, ?_, q⟩
  have h1 := X.ialoadOut hexec (by rw [hT]; exact hP q0 _ ha) ((hK.2 t0 _ ht).1 n (fun j => .int (f j))) (j := i) (by show (i < 0 ∨ (arrV _ _ _).slots.size ≤ _); rw [arrV_size]; exact Classical.byContradiction hout) (g := F0 m pc ls (.int i :: .ref a :: rest)) rfl (rest := rest) rfl (by rw [hb]; exact hdg) t
  simp only [arrV_size] at h1
  exact h1 st
theorem vx_iastZ {D : va_G} {cl : List vw_C} {ws : va_W} {tys : List (ClassId × FieldType)} {a : Nat} (hexec : p.tables.exec = Jvm.exec) (hb : c.code = cc) (hK : va_K D cl tys s) (hP : va_P D cl ws H) (q0 t0 : Nat) {cA : ClassId} {n : Nat} {f : Nat → Int32} (ha : ws[q0]? = some (a, .inl (cA, n, .inl f))) (ht : tys[t0]? = some (cA, .int)) {i : Int32} {x : Int32} (hout : ¬ vp_in i n) (hdg : decode cc pc = .ok (.iastore, 1))
    (k : ∀ tx : String, tx = (toString "Index " ++ toString i ++ toString " out of bounds for length " ++ toString n : String) → vx_Note p l e R s m args below meth c H locs cells slots Q (F0 m pc ls rest) "java/lang/ArrayIndexOutOfBoundsException" tx) : W p l e R s m args below meth c H locs cells slots Q (F0 m pc ls (.int x :: .int i :: .ref a :: rest)) := by
  intro T hT X
  obtain ⟨t, st, q⟩ := k _ rfl T hT X
  refine ⟨t, ?_, q⟩
  have h1 := X.iastoreOut hexec (by rw [hT]; exact hP q0 _ ha) ((hK.2 t0 _ ht).1 n (fun j => .int (f j))) (j := i) (by show (i < 0 ∨ (arrV _ _ _).slots.size ≤ _); rw [arrV_size]; exact Classical.byContradiction hout) (g := F0 m pc ls (.int x :: .int i :: .ref a :: rest)) rfl (rest := rest) rfl (by rw [hb]; exact hdg) t
  simp only [arrV_size] at h1
  exact h1 st
theorem vx_baldZ {D : va_G} {cl : List vw_C} {ws : va_W} {tys : List (ClassId × FieldType)} {a : Nat} (hexec : p.tables.exec = Jvm.exec) (hb : c.code = cc) (hK : va_K D cl tys s) (hP : va_P D cl ws H) (q0 t0 : Nat) {cA : ClassId} {n : Nat} {f : Nat → Int32} (ha : ws[q0]? = some (a, .inl (cA, n, .inl f))) (ht : tys[t0]? = some (cA, .byte)) {i : Int32} (hout : ¬ vp_in i n) (hdg : decode cc pc = .ok (.baload, 1))
    (k : ∀ tx : String, tx = (toString "Index " ++ toString i ++ toString " out of bounds for length " ++ toString n : String) → vx_Note p l e R s m args below meth c H locs cells slots Q (F0 m pc ls rest) "java/lang/ArrayIndexOutOfBoundsException" tx) : W p l e R s m args below meth c H locs cells slots Q (F0 m pc ls (.int i :: .ref a :: rest)) := by
  intro T hT X
  obtain ⟨t, st, q⟩ := k _ rfl T hT X
  refine ⟨t, ?_, q⟩
  have h1 := X.baloadOut hexec (by rw [hT]; exact hP q0 _ ha) ((hK.2 t0 _ ht).1 n (fun j => .int (f j))) (j := i) (by show (i < 0 ∨ (arrV _ _ _).slots.size ≤ _); rw [arrV_size]; exact Classical.byContradiction hout) (g := F0 m pc ls (.int i :: .ref a :: rest)) rfl (rest := rest) rfl (by rw [hb]; exact hdg) t
  simp only [arrV_size] at h1
  exact h1 st
theorem vx_bastZ {D : va_G} {cl : List vw_C} {ws : va_W} {tys : List (ClassId × FieldType)} {a : Nat} (hexec : p.tables.exec = Jvm.exec) (hb : c.code = cc) (hK : va_K D cl tys s) (hP : va_P D cl ws H) (q0 t0 : Nat) {cA : ClassId} {n : Nat} {f : Nat → Int32} (ha : ws[q0]? = some (a, .inl (cA, n, .inl f))) (ht : tys[t0]? = some (cA, .byte)) {i : Int32} {x : Int32} (hout : ¬ vp_in i n) (hdg : decode cc pc = .ok (.bastore, 1))
    (k : ∀ tx : String, tx = (toString "Index " ++ toString i ++ toString " out of bounds for length " ++ toString n : String) → vx_Note p l e R s m args below meth c H locs cells slots Q (F0 m pc ls rest) "java/lang/ArrayIndexOutOfBoundsException" tx) : W p l e R s m args below meth c H locs cells slots Q (F0 m pc ls (.int x :: .int i :: .ref a :: rest)) := by
  intro T hT X
  obtain ⟨t, st, q⟩ := k _ rfl T hT X
  refine ⟨t, ?_, q⟩
  have h1 := X.bastoreOut hexec (by rw [hT]; exact hP q0 _ ha) ((hK.2 t0 _ ht).1 n (fun j => .int (f j))) (j := i) (by show (i < 0 ∨ (arrV _ _ _).slots.size ≤ _); rw [arrV_size]; exact Classical.byContradiction hout) (g := F0 m pc ls (.int x :: .int i :: .ref a :: rest)) rfl (rest := rest) rfl (by rw [hb]; exact hdg) t
  simp only [arrV_size] at h1
  exact h1 st
theorem vx_zaldZ {D : va_G} {cl : List vw_C} {ws : va_W} {tys : List (ClassId × FieldType)} {a : Nat} (hexec : p.tables.exec = Jvm.exec) (hb : c.code = cc) (hK : va_K D cl tys s) (hP : va_P D cl ws H) (q0 t0 : Nat) {cA : ClassId} {n : Nat} {f : Nat → Int32} (ha : ws[q0]? = some (a, .inl (cA, n, .inl f))) (ht : tys[t0]? = some (cA, .boolean)) {i : Int32} (hout : ¬ vp_in i n) (hdg : decode cc pc = .ok (.baload, 1))
    (k : ∀ tx : String, tx = (toString "Index " ++ toString i ++ toString " out of bounds for length " ++ toString n : String) → vx_Note p l e R s m args below meth c H locs cells slots Q (F0 m pc ls rest) "java/lang/ArrayIndexOutOfBoundsException" tx) : W p l e R s m args below meth c H locs cells slots Q (F0 m pc ls (.int i :: .ref a :: rest)) := by
  intro T hT X
  obtain ⟨t, st, q⟩ := k _ rfl T hT X
  refine ⟨t, ?_, q⟩
  have h1 := X.baloadOut hexec (by rw [hT]; exact hP q0 _ ha) ((hK.2 t0 _ ht).1 n (fun j => .int (f j))) (j := i) (by show (i < 0 ∨ (arrV _ _ _).slots.size ≤ _); rw [arrV_size]; exact Classical.byContradiction hout) (g := F0 m pc ls (.int i :: .ref a :: rest)) rfl (rest := rest) rfl (by rw [hb]; exact hdg) t
  simp only [arrV_size] at h1
  exact h1 st
theorem vx_zastZ {D : va_G} {cl : List vw_C} {ws : va_W} {tys : List (ClassId × FieldType)} {a : Nat} (hexec : p.tables.exec = Jvm.exec) (hb : c.code = cc) (hK : va_K D cl tys s) (hP : va_P D cl ws H) (q0 t0 : Nat) {cA : ClassId} {n : Nat} {f : Nat → Int32} (ha : ws[q0]? = some (a, .inl (cA, n, .inl f))) (ht : tys[t0]? = some (cA, .boolean)) {i : Int32} {x : Int32} (hout : ¬ vp_in i n) (hdg : decode cc pc = .ok (.bastore, 1))
    (k : ∀ tx : String, tx = (toString "Index " ++ toString i ++ toString " out of bounds for length " ++ toString n : String) → vx_Note p l e R s m args below meth c H locs cells slots Q (F0 m pc ls rest) "java/lang/ArrayIndexOutOfBoundsException" tx) : W p l e R s m args below meth c H locs cells slots Q (F0 m pc ls (.int x :: .int i :: .ref a :: rest)) := by
  intro T hT X
  obtain ⟨t, st, q⟩ := k _ rfl T hT X
  refine ⟨t, ?_, q⟩
  have h1 := X.bastoreOut hexec (by rw [hT]; exact hP q0 _ ha) ((hK.2 t0 _ ht).1 n (fun j => .int (f j))) (j := i) (by show (i < 0 ∨ (arrV _ _ _).slots.size ≤ _); rw [arrV_size]; exact Classical.byContradiction hout) (g := F0 m pc ls (.int x :: .int i :: .ref a :: rest)) rfl (rest := rest) rfl (by rw [hb]; exact hdg) t
  simp only [arrV_size] at h1
  exact h1 st
theorem vx_caldZ {D : va_G} {cl : List vw_C} {ws : va_W} {tys : List (ClassId × FieldType)} {a : Nat} (hexec : p.tables.exec = Jvm.exec) (hb : c.code = cc) (hK : va_K D cl tys s) (hP : va_P D cl ws H) (q0 t0 : Nat) {cA : ClassId} {n : Nat} {f : Nat → Int32} (ha : ws[q0]? = some (a, .inl (cA, n, .inl f))) (ht : tys[t0]? = some (cA, .char)) {i : Int32} (hout : ¬ vp_in i n) (hdg : decode cc pc = .ok (.caload, 1))
    (k : ∀ tx : String, tx = (toString "Index " ++ toString i ++ toString " out of bounds for length " ++ toString n : String) → vx_Note p l e R s m args below meth c H locs cells slots Q (F0 m pc ls rest) "java/lang/ArrayIndexOutOfBoundsException" tx) : W p l e R s m args below meth c H locs cells slots Q (F0 m pc ls (.int i :: .ref a :: rest)) := by
  intro T hT X
  obtain ⟨t, st, q⟩ := k _ rfl T hT X
  refine ⟨t, ?_, q⟩
  have h1 := X.caloadOut hexec (by rw [hT]; exact hP q0 _ ha) ((hK.2 t0 _ ht).1 n (fun j => .int (f j))) (j := i) (by show (i < 0 ∨ (arrV _ _ _).slots.size ≤ _); rw [arrV_size]; exact Classical.byContradiction hout) (g := F0 m pc ls (.int i :: .ref a :: rest)) rfl (rest := rest) rfl (by rw [hb]; exact hdg) t
  simp only [arrV_size] at h1
  exact h1 st
theorem vx_castZ {D : va_G} {cl : List vw_C} {ws : va_W} {tys : List (ClassId × FieldType)} {a : Nat} (hexec : p.tables.exec = Jvm.exec) (hb : c.code = cc) (hK : va_K D cl tys s) (hP : va_P D cl ws H) (q0 t0 : Nat) {cA : ClassId} {n : Nat} {f : Nat → Int32} (ha : ws[q0]? = some (a, .inl (cA, n, .inl f))) (ht : tys[t0]? = some (cA, .char)) {i : Int32} {x : Int32} (hout : ¬ vp_in i n) (hdg : decode cc pc = .ok (.castore, 1))
    (k : ∀ tx : String, tx = (toString "Index " ++ toString i ++ toString " out of bounds for length " ++ toString n : String) → vx_Note p l e R s m args below meth c H locs cells slots Q (F0 m pc ls rest) "java/lang/ArrayIndexOutOfBoundsException" tx) : W p l e R s m args below meth c H locs cells slots Q (F0 m pc ls (.int x :: .int i :: .ref a :: rest)) := by
  intro T hT X
  obtain ⟨t, st, q⟩ := k _ rfl T hT X
  refine ⟨t, ?_, q⟩
  have h1 := X.castoreOut hexec (by rw [hT]; exact hP q0 _ ha) ((hK.2 t0 _ ht).1 n (fun j => .int (f j))) (j := i) (by show (i < 0 ∨ (arrV _ _ _).slots.size ≤ _); rw [arrV_size]; exact Classical.byContradiction hout) (g := F0 m pc ls (.int x :: .int i :: .ref a :: rest)) rfl (rest := rest) rfl (by rw [hb]; exact hdg) t
  simp only [arrV_size] at h1
  exact h1 st
theorem vx_saldZ {D : va_G} {cl : List vw_C} {ws : va_W} {tys : List (ClassId × FieldType)} {a : Nat} (hexec : p.tables.exec = Jvm.exec) (hb : c.code = cc) (hK : va_K D cl tys s) (hP : va_P D cl ws H) (q0 t0 : Nat) {cA : ClassId} {n : Nat} {f : Nat → Int32} (ha : ws[q0]? = some (a, .inl (cA, n, .inl f))) (ht : tys[t0]? = some (cA, .short)) {i : Int32} (hout : ¬ vp_in i n) (hdg : decode cc pc = .ok (.saload, 1))
    (k : ∀ tx : String, tx = (toString "Index " ++ toString i ++ toString " out of bounds for length " ++ toString n : String) → vx_Note p l e R s m args below meth c H locs cells slots Q (F0 m pc ls rest) "java/lang/ArrayIndexOutOfBoundsException" tx) : W p l e R s m args below meth c H locs cells slots Q (F0 m pc ls (.int i :: .ref a :: rest)) := by
  intro T hT X
  obtain ⟨t, st, q⟩ := k _ rfl T hT X
  refine ⟨t, ?_, q⟩
  have h1 := X.saloadOut hexec (by rw [hT]; exact hP q0 _ ha) ((hK.2 t0 _ ht).1 n (fun j => .int (f j))) (j := i) (by show (i < 0 ∨ (arrV _ _ _).slots.size ≤ _); rw [arrV_size]; exact Classical.byContradiction hout) (g := F0 m pc ls (.int i :: .ref a :: rest)) rfl (rest := rest) rfl (by rw [hb]; exact hdg) t
  simp only [arrV_size] at h1
  exact h1 st
theorem vx_sastZ {D : va_G} {cl : List vw_C} {ws : va_W} {tys : List (ClassId × FieldType)} {a : Nat} (hexec : p.tables.exec = Jvm.exec) (hb : c.code = cc) (hK : va_K D cl tys s) (hP : va_P D cl ws H) (q0 t0 : Nat) {cA : ClassId} {n : Nat} {f : Nat → Int32} (ha : ws[q0]? = some (a, .inl (cA, n, .inl f))) (ht : tys[t0]? = some (cA, .short)) {i : Int32} {x : Int32} (hout : ¬ vp_in i n) (hdg : decode cc pc = .ok (.sastore, 1))
    (k : ∀ tx : String, tx = (toString "Index " ++ toString i ++ toString " out of bounds for length " ++ toString n : String) → vx_Note p l e R s m args below meth c H locs cells slots Q (F0 m pc ls rest) "java/lang/ArrayIndexOutOfBoundsException" tx) : W p l e R s m args below meth c H locs cells slots Q (F0 m pc ls (.int x :: .int i :: .ref a :: rest)) := by
  intro T hT X
  obtain ⟨t, st, q⟩ := k _ rfl T hT X
  refine ⟨t, ?_, q⟩
  have h1 := X.sastoreOut hexec (by rw [hT]; exact hP q0 _ ha) ((hK.2 t0 _ ht).1 n (fun j => .int (f j))) (j := i) (by show (i < 0 ∨ (arrV _ _ _).slots.size ≤ _); rw [arrV_size]; exact Classical.byContradiction hout) (g := F0 m pc ls (.int x :: .int i :: .ref a :: rest)) rfl (rest := rest) rfl (by rw [hb]; exact hdg) t
  simp only [arrV_size] at h1
  exact h1 st
theorem vx_laldZ {D : va_G} {cl : List vw_C} {ws : va_W} {tys : List (ClassId × FieldType)} {a : Nat} (hexec : p.tables.exec = Jvm.exec) (hb : c.code = cc) (hK : va_K D cl tys s) (hP : va_P D cl ws H) (q0 t0 : Nat) {cA : ClassId} {n : Nat} {f : Nat → Int64} (ha : ws[q0]? = some (a, .inl (cA, n, .inr (.inl f)))) (ht : tys[t0]? = some (cA, .long)) {i : Int32} (hout : ¬ vp_in i n) (hdg : decode cc pc = .ok (.laload, 1))
    (k : ∀ tx : String, tx = (toString "Index " ++ toString i ++ toString " out of bounds for length " ++ toString n : String) → vx_Note p l e R s m args below meth c H locs cells slots Q (F0 m pc ls rest) "java/lang/ArrayIndexOutOfBoundsException" tx) : W p l e R s m args below meth c H locs cells slots Q (F0 m pc ls (.int i :: .ref a :: rest)) := by
  intro T hT X
  obtain ⟨t, st, q⟩ := k _ rfl T hT X
  refine ⟨t, ?_, q⟩
  have h1 := X.laloadOut hexec (by rw [hT]; exact hP q0 _ ha) ((hK.2 t0 _ ht).1 n (fun j => .long (f j))) (j := i) (by show (i < 0 ∨ (arrV _ _ _).slots.size ≤ _); rw [arrV_size]; exact Classical.byContradiction hout) (g := F0 m pc ls (.int i :: .ref a :: rest)) rfl (rest := rest) rfl (by rw [hb]; exact hdg) t
  simp only [arrV_size] at h1
  exact h1 st
theorem vx_lastZ {D : va_G} {cl : List vw_C} {ws : va_W} {tys : List (ClassId × FieldType)} {a : Nat} (hexec : p.tables.exec = Jvm.exec) (hb : c.code = cc) (hK : va_K D cl tys s) (hP : va_P D cl ws H) (q0 t0 : Nat) {cA : ClassId} {n : Nat} {f : Nat → Int64} (ha : ws[q0]? = some (a, .inl (cA, n, .inr (.inl f)))) (ht : tys[t0]? = some (cA, .long)) {i : Int32} {x : Int64} (hout : ¬ vp_in i n) (hdg : decode cc pc = .ok (.lastore, 1))
    (k : ∀ tx : String, tx = (toString "Index " ++ toString i ++ toString " out of bounds for length " ++ toString n : String) → vx_Note p l e R s m args below meth c H locs cells slots Q (F0 m pc ls rest) "java/lang/ArrayIndexOutOfBoundsException" tx) : W p l e R s m args below meth c H locs cells slots Q (F0 m pc ls (.long x :: .int i :: .ref a :: rest)) := by
  intro T hT X
  obtain ⟨t, st, q⟩ := k _ rfl T hT X
  refine ⟨t, ?_, q⟩
  have h1 := X.lastoreOut hexec (by rw [hT]; exact hP q0 _ ha) ((hK.2 t0 _ ht).1 n (fun j => .long (f j))) (j := i) (by show (i < 0 ∨ (arrV _ _ _).slots.size ≤ _); rw [arrV_size]; exact Classical.byContradiction hout) (g := F0 m pc ls (.long x :: .int i :: .ref a :: rest)) rfl (rest := rest) rfl (by rw [hb]; exact hdg) t
  simp only [arrV_size] at h1
  exact h1 st
theorem vx_faldZ {D : va_G} {cl : List vw_C} {ws : va_W} {tys : List (ClassId × FieldType)} {a : Nat} (hexec : p.tables.exec = Jvm.exec) (hb : c.code = cc) (hK : va_K D cl tys s) (hP : va_P D cl ws H) (q0 t0 : Nat) {cA : ClassId} {n : Nat} {f : Nat → UInt32} (ha : ws[q0]? = some (a, .inl (cA, n, .inr (.inr (.inl f))))) (ht : tys[t0]? = some (cA, .float)) {i : Int32} (hout : ¬ vp_in i n) (hdg : decode cc pc = .ok (.faload, 1))
    (k : ∀ tx : String, tx = (toString "Index " ++ toString i ++ toString " out of bounds for length " ++ toString n : String) → vx_Note p l e R s m args below meth c H locs cells slots Q (F0 m pc ls rest) "java/lang/ArrayIndexOutOfBoundsException" tx) : W p l e R s m args below meth c H locs cells slots Q (F0 m pc ls (.int i :: .ref a :: rest)) := by
  intro T hT X
  obtain ⟨t, st, q⟩ := k _ rfl T hT X
  refine ⟨t, ?_, q⟩
  have h1 := X.faloadOut hexec (by rw [hT]; exact hP q0 _ ha) ((hK.2 t0 _ ht).1 n (fun j => .float (f j))) (j := i) (by show (i < 0 ∨ (arrV _ _ _).slots.size ≤ _); rw [arrV_size]; exact Classical.byContradiction hout) (g := F0 m pc ls (.int i :: .ref a :: rest)) rfl (rest := rest) rfl (by rw [hb]; exact hdg) t
  simp only [arrV_size] at h1
  exact h1 st
theorem vx_fastZ {D : va_G} {cl : List vw_C} {ws : va_W} {tys : List (ClassId × FieldType)} {a : Nat} (hexec : p.tables.exec = Jvm.exec) (hb : c.code = cc) (hK : va_K D cl tys s) (hP : va_P D cl ws H) (q0 t0 : Nat) {cA : ClassId} {n : Nat} {f : Nat → UInt32} (ha : ws[q0]? = some (a, .inl (cA, n, .inr (.inr (.inl f))))) (ht : tys[t0]? = some (cA, .float)) {i : Int32} {x : UInt32} (hout : ¬ vp_in i n) (hdg : decode cc pc = .ok (.fastore, 1))
    (k : ∀ tx : String, tx = (toString "Index " ++ toString i ++ toString " out of bounds for length " ++ toString n : String) → vx_Note p l e R s m args below meth c H locs cells slots Q (F0 m pc ls rest) "java/lang/ArrayIndexOutOfBoundsException" tx) : W p l e R s m args below meth c H locs cells slots Q (F0 m pc ls (.float x :: .int i :: .ref a :: rest)) := by
  intro T hT X
  obtain ⟨t, st, q⟩ := k _ rfl T hT X
  refine ⟨t, ?_, q⟩
  have h1 := X.fastoreOut hexec (by rw [hT]; exact hP q0 _ ha) ((hK.2 t0 _ ht).1 n (fun j => .float (f j))) (j := i) (by show (i < 0 ∨ (arrV _ _ _).slots.size ≤ _); rw [arrV_size]; exact Classical.byContradiction hout) (g := F0 m pc ls (.float x :: .int i :: .ref a :: rest)) rfl (rest := rest) rfl (by rw [hb]; exact hdg) t
  simp only [arrV_size] at h1
  exact h1 st
theorem vx_daldZ {D : va_G} {cl : List vw_C} {ws : va_W} {tys : List (ClassId × FieldType)} {a : Nat} (hexec : p.tables.exec = Jvm.exec) (hb : c.code = cc) (hK : va_K D cl tys s) (hP : va_P D cl ws H) (q0 t0 : Nat) {cA : ClassId} {n : Nat} {f : Nat → UInt64} (ha : ws[q0]? = some (a, .inl (cA, n, .inr (.inr (.inr (.inl f)))))) (ht : tys[t0]? = some (cA, .double)) {i : Int32} (hout : ¬ vp_in i n) (hdg : decode cc pc = .ok (.daload, 1))
    (k : ∀ tx : String, tx = (toString "Index " ++ toString i ++ toString " out of bounds for length " ++ toString n : String) → vx_Note p l e R s m args below meth c H locs cells slots Q (F0 m pc ls rest) "java/lang/ArrayIndexOutOfBoundsException" tx) : W p l e R s m args below meth c H locs cells slots Q (F0 m pc ls (.int i :: .ref a :: rest)) := by
  intro T hT X
  obtain ⟨t, st, q⟩ := k _ rfl T hT X
  refine ⟨t, ?_, q⟩
  have h1 := X.daloadOut hexec (by rw [hT]; exact hP q0 _ ha) ((hK.2 t0 _ ht).1 n (fun j => .double (f j))) (j := i) (by show (i < 0 ∨ (arrV _ _ _).slots.size ≤ _); rw [arrV_size]; exact Classical.byContradiction hout) (g := F0 m pc ls (.int i :: .ref a :: rest)) rfl (rest := rest) rfl (by rw [hb]; exact hdg) t
  simp only [arrV_size] at h1
  exact h1 st
theorem vx_dastZ {D : va_G} {cl : List vw_C} {ws : va_W} {tys : List (ClassId × FieldType)} {a : Nat} (hexec : p.tables.exec = Jvm.exec) (hb : c.code = cc) (hK : va_K D cl tys s) (hP : va_P D cl ws H) (q0 t0 : Nat) {cA : ClassId} {n : Nat} {f : Nat → UInt64} (ha : ws[q0]? = some (a, .inl (cA, n, .inr (.inr (.inr (.inl f)))))) (ht : tys[t0]? = some (cA, .double)) {i : Int32} {x : UInt64} (hout : ¬ vp_in i n) (hdg : decode cc pc = .ok (.dastore, 1))
    (k : ∀ tx : String, tx = (toString "Index " ++ toString i ++ toString " out of bounds for length " ++ toString n : String) → vx_Note p l e R s m args below meth c H locs cells slots Q (F0 m pc ls rest) "java/lang/ArrayIndexOutOfBoundsException" tx) : W p l e R s m args below meth c H locs cells slots Q (F0 m pc ls (.double x :: .int i :: .ref a :: rest)) := by
  intro T hT X
  obtain ⟨t, st, q⟩ := k _ rfl T hT X
  refine ⟨t, ?_, q⟩
  have h1 := X.dastoreOut hexec (by rw [hT]; exact hP q0 _ ha) ((hK.2 t0 _ ht).1 n (fun j => .double (f j))) (j := i) (by show (i < 0 ∨ (arrV _ _ _).slots.size ≤ _); rw [arrV_size]; exact Classical.byContradiction hout) (g := F0 m pc ls (.double x :: .int i :: .ref a :: rest)) rfl (rest := rest) rfl (by rw [hb]; exact hdg) t
  simp only [arrV_size] at h1
  exact h1 st
theorem vx_arraylengthN (hexec : p.tables.exec = Jvm.exec) (hb : c.code = cc) (hdg : decode cc pc = .ok (.arraylength, 1)) (k : vx_NoteN p l e R s m args below meth c H locs cells slots Q (F0 m pc ls rest)) : W p l e R s m args below meth c H locs cells slots Q (F0 m pc ls (.null :: rest)) := by
  intro T hT X
  obtain ⟨t, st, q⟩ := k T hT X
  exact ⟨t, X.arraylengthNull hexec (g := F0 m pc ls (.null :: rest)) rfl (rest := rest) rfl (by rw [hb]; exact hdg) t st, q⟩
theorem vx_ialoadN (hexec : p.tables.exec = Jvm.exec) (hb : c.code = cc) {i : Int32} (hdg : decode cc pc = .ok (.iaload, 1)) (k : vx_NoteN p l e R s m args below meth c H locs cells slots Q (F0 m pc ls rest)) : W p l e R s m args below meth c H locs cells slots Q (F0 m pc ls (.int i :: .null :: rest)) := by
  intro T hT X
  obtain ⟨t, st, q⟩ := k T hT X
  exact ⟨t, X.ialoadNull hexec (g := F0 m pc ls (.int i :: .null :: rest)) rfl (rest := rest) rfl (by rw [hb]; exact hdg) t st, q⟩
theorem vx_laloadN (hexec : p.tables.exec = Jvm.exec) (hb : c.code = cc) {i : Int32} (hdg : decode cc pc = .ok (.laload, 1)) (k : vx_NoteN p l e R s m args below meth c H locs cells slots Q (F0 m pc ls rest)) : W p l e R s m args below meth c H locs cells slots Q (F0 m pc ls (.int i :: .null :: rest)) := by
  intro T hT X
  obtain ⟨t, st, q⟩ := k T hT X
  exact ⟨t, X.laloadNull hexec (g := F0 m pc ls (.int i :: .null :: rest)) rfl (rest := rest) rfl (by rw [hb]; exact hdg) t st, q⟩
theorem vx_faloadN (hexec : p.tables.exec = Jvm.exec) (hb : c.code = cc) {i : Int32} (hdg : decode cc pc = .ok (.faload, 1)) (k : vx_NoteN p l e R s m args below meth c H locs cells slots Q (F0 m pc ls rest)) : W p l e R s m args below meth c H locs cells slots Q (F0 m pc ls (.int i :: .null :: rest)) := by
  intro T hT X
  obtain ⟨t, st, q⟩ := k T hT X
  exact ⟨t, X.faloadNull hexec (g := F0 m pc ls (.int i :: .null :: rest)) rfl (rest := rest) rfl (by rw [hb]; exact hdg) t st, q⟩
theorem vx_daloadN (hexec : p.tables.exec = Jvm.exec) (hb : c.code = cc) {i : Int32} (hdg : decode cc pc = .ok (.daload, 1)) (k : vx_NoteN p l e R s m args below meth c H locs cells slots Q (F0 m pc ls rest)) : W p l e R s m args below meth c H locs cells slots Q (F0 m pc ls (.int i :: .null :: rest)) := by
  intro T hT X
  obtain ⟨t, st, q⟩ := k T hT X
  exact ⟨t, X.daloadNull hexec (g := F0 m pc ls (.int i :: .null :: rest)) rfl (rest := rest) rfl (by rw [hb]; exact hdg) t st, q⟩
theorem vx_aaloadN (hexec : p.tables.exec = Jvm.exec) (hb : c.code = cc) {i : Int32} (hdg : decode cc pc = .ok (.aaload, 1)) (k : vx_NoteN p l e R s m args below meth c H locs cells slots Q (F0 m pc ls rest)) : W p l e R s m args below meth c H locs cells slots Q (F0 m pc ls (.int i :: .null :: rest)) := by
  intro T hT X
  obtain ⟨t, st, q⟩ := k T hT X
  exact ⟨t, X.aaloadNull hexec (g := F0 m pc ls (.int i :: .null :: rest)) rfl (rest := rest) rfl (by rw [hb]; exact hdg) t st, q⟩
theorem vx_baloadN (hexec : p.tables.exec = Jvm.exec) (hb : c.code = cc) {i : Int32} (hdg : decode cc pc = .ok (.baload, 1)) (k : vx_NoteN p l e R s m args below meth c H locs cells slots Q (F0 m pc ls rest)) : W p l e R s m args below meth c H locs cells slots Q (F0 m pc ls (.int i :: .null :: rest)) := by
  intro T hT X
  obtain ⟨t, st, q⟩ := k T hT X
  exact ⟨t, X.baloadNull hexec (g := F0 m pc ls (.int i :: .null :: rest)) rfl (rest := rest) rfl (by rw [hb]; exact hdg) t st, q⟩
theorem vx_caloadN (hexec : p.tables.exec = Jvm.exec) (hb : c.code = cc) {i : Int32} (hdg : decode cc pc = .ok (.caload, 1)) (k : vx_NoteN p l e R s m args below meth c H locs cells slots Q (F0 m pc ls rest)) : W p l e R s m args below meth c H locs cells slots Q (F0 m pc ls (.int i :: .null :: rest)) := by
  intro T hT X
  obtain ⟨t, st, q⟩ := k T hT X
  exact ⟨t, X.caloadNull hexec (g := F0 m pc ls (.int i :: .null :: rest)) rfl (rest := rest) rfl (by rw [hb]; exact hdg) t st, q⟩
theorem vx_saloadN (hexec : p.tables.exec = Jvm.exec) (hb : c.code = cc) {i : Int32} (hdg : decode cc pc = .ok (.saload, 1)) (k : vx_NoteN p l e R s m args below meth c H locs cells slots Q (F0 m pc ls rest)) : W p l e R s m args below meth c H locs cells slots Q (F0 m pc ls (.int i :: .null :: rest)) := by
  intro T hT X
  obtain ⟨t, st, q⟩ := k T hT X
  exact ⟨t, X.saloadNull hexec (g := F0 m pc ls (.int i :: .null :: rest)) rfl (rest := rest) rfl (by rw [hb]; exact hdg) t st, q⟩
theorem vx_iastoreN (hexec : p.tables.exec = Jvm.exec) (hb : c.code = cc) {x : Int32} {i : Int32} (hdg : decode cc pc = .ok (.iastore, 1)) (k : vx_NoteN p l e R s m args below meth c H locs cells slots Q (F0 m pc ls rest)) : W p l e R s m args below meth c H locs cells slots Q (F0 m pc ls (.int x :: .int i :: .null :: rest)) := by
  intro T hT X
  obtain ⟨t, st, q⟩ := k T hT X
  exact ⟨t, X.iastoreNull hexec (g := F0 m pc ls (.int x :: .int i :: .null :: rest)) rfl (rest := rest) rfl (by rw [hb]; exact hdg) t st, q⟩
theorem vx_lastoreN (hexec : p.tables.exec = Jvm.exec) (hb : c.code = cc) {x : Int64} {i : Int32} (hdg : decode cc pc = .ok (.lastore, 1)) (k : vx_NoteN p l e R s m args below meth c H locs cells slots Q (F0 m pc ls rest)) : W p l e R s m args below meth c H locs cells slots Q (F0 m pc ls (.long x :: .int i :: .null :: rest)) := by
  intro T hT X
  obtain ⟨t, st, q⟩ := k T hT X
  exact ⟨t, X.lastoreNull hexec (g := F0 m pc ls (.long x :: .int i :: .null :: rest)) rfl (rest := rest) rfl (by rw [hb]; exact hdg) t st, q⟩
theorem vx_fastoreN (hexec : p.tables.exec = Jvm.exec) (hb : c.code = cc) {x : UInt32} {i : Int32} (hdg : decode cc pc = .ok (.fastore, 1)) (k : vx_NoteN p l e R s m args below meth c H locs cells slots Q (F0 m pc ls rest)) : W p l e R s m args below meth c H locs cells slots Q (F0 m pc ls (.float x :: .int i :: .null :: rest)) := by
  intro T hT X
  obtain ⟨t, st, q⟩ := k T hT X
  exact ⟨t, X.fastoreNull hexec (g := F0 m pc ls (.float x :: .int i :: .null :: rest)) rfl (rest := rest) rfl (by rw [hb]; exact hdg) t st, q⟩
theorem vx_dastoreN (hexec : p.tables.exec = Jvm.exec) (hb : c.code = cc) {x : UInt64} {i : Int32} (hdg : decode cc pc = .ok (.dastore, 1)) (k : vx_NoteN p l e R s m args below meth c H locs cells slots Q (F0 m pc ls rest)) : W p l e R s m args below meth c H locs cells slots Q (F0 m pc ls (.double x :: .int i :: .null :: rest)) := by
  intro T hT X
  obtain ⟨t, st, q⟩ := k T hT X
  exact ⟨t, X.dastoreNull hexec (g := F0 m pc ls (.double x :: .int i :: .null :: rest)) rfl (rest := rest) rfl (by rw [hb]; exact hdg) t st, q⟩
theorem vx_bastoreN (hexec : p.tables.exec = Jvm.exec) (hb : c.code = cc) {x : Int32} {i : Int32} (hdg : decode cc pc = .ok (.bastore, 1)) (k : vx_NoteN p l e R s m args below meth c H locs cells slots Q (F0 m pc ls rest)) : W p l e R s m args below meth c H locs cells slots Q (F0 m pc ls (.int x :: .int i :: .null :: rest)) := by
  intro T hT X
  obtain ⟨t, st, q⟩ := k T hT X
  exact ⟨t, X.bastoreNull hexec (g := F0 m pc ls (.int x :: .int i :: .null :: rest)) rfl (rest := rest) rfl (by rw [hb]; exact hdg) t st, q⟩
theorem vx_castoreN (hexec : p.tables.exec = Jvm.exec) (hb : c.code = cc) {x : Int32} {i : Int32} (hdg : decode cc pc = .ok (.castore, 1)) (k : vx_NoteN p l e R s m args below meth c H locs cells slots Q (F0 m pc ls rest)) : W p l e R s m args below meth c H locs cells slots Q (F0 m pc ls (.int x :: .int i :: .null :: rest)) := by
  intro T hT X
  obtain ⟨t, st, q⟩ := k T hT X
  exact ⟨t, X.castoreNull hexec (g := F0 m pc ls (.int x :: .int i :: .null :: rest)) rfl (rest := rest) rfl (by rw [hb]; exact hdg) t st, q⟩
theorem vx_sastoreN (hexec : p.tables.exec = Jvm.exec) (hb : c.code = cc) {x : Int32} {i : Int32} (hdg : decode cc pc = .ok (.sastore, 1)) (k : vx_NoteN p l e R s m args below meth c H locs cells slots Q (F0 m pc ls rest)) : W p l e R s m args below meth c H locs cells slots Q (F0 m pc ls (.int x :: .int i :: .null :: rest)) := by
  intro T hT X
  obtain ⟨t, st, q⟩ := k T hT X
  exact ⟨t, X.sastoreNull hexec (g := F0 m pc ls (.int x :: .int i :: .null :: rest)) rfl (rest := rest) rfl (by rw [hb]; exact hdg) t st, q⟩
theorem vx_invokeN {own C : String} {index maxL : Nat} {y : MethodName} {bytes : ByteArray} {ret : Option FieldType} (hexec : p.tables.exec = Jvm.exec) (hb : c.code = cc) (hown : s.vm.findClass own = some m.cls) (hlink : (Cond.methodLink own index y).before args s = true) (hinst : (Cond.instanceMethod y).before args s = true) (hcode : (Cond.code y bytes maxL ret).before args s = true) (hsel : (Cond.selects C y y).before args s = true)
    (hx : y.cls ≠ "java/lang/invoke/MethodHandle" ∧ y.cls ≠ "java/lang/invoke/VarHandle") {As : List Value} (hlen : (parseMethodDescriptor y.desc).map (fun d => d.parameters.length) = some As.length) (hdg : decode cc pc = .ok (.invokevirtual index, 3))
    (k : vx_NoteN p l e R s m args below meth c H locs cells slots Q (F0 m pc ls rest)) {st0 : List Value} (hst : st0 = As.reverse ++ .null :: rest) : W p l e R s m args below meth c H locs cells slots Q (F0 m pc ls st0) := by
  intro T hT X
  obtain ⟨r0, r, hn, hrm, hstR, hsigR⟩ := va_Decl.of hinst hcode
  obtain ⟨c2, r2, m2, q1, q2, q3, q4, kP, hkP, hkPi⟩ := Cond.selects_spec hsel
  cases hn.symm.trans q3
  have hl9 : As.length = r.sig.parameters.length := by
    rw [hsigR] at hlen
    exact (Option.some.inj hlen).symm
  obtain ⟨vm', X1, st1⟩ := X.invokevirtualNull hexec hown hlink hn hrm hstR hkP hkPi hx (g := F0 m pc ls st0) rfl (argsL := As) (rest := rest) hl9 hst (by rw [hb]; exact hdg)
  obtain ⟨t, st, q⟩ := k (T.setVm vm') hT X1
  exact ⟨t, st1 t st, q⟩
theorem vx_newarrayZ {atype : ArrayType} (hexec : p.tables.exec = Jvm.exec) (hb : c.code = cc) {n : Int32} (h0 : n < 0) (hdg : decode cc pc = .ok (.newarray atype, 2)) (k : ∀ tx : String, tx = toString n → vx_Note p l e R s m args below meth c H locs cells slots Q (F0 m pc ls rest) "java/lang/NegativeArraySizeException" tx) : W p l e R s m args below meth c H locs cells slots Q (F0 m pc ls (.int n :: rest)) := by
  intro T hT X
  obtain ⟨t, st, q⟩ := k _ rfl T hT X
  exact ⟨t, X.newarrayNegative hexec (g := F0 m pc ls (.int n :: rest)) rfl h0 (rest := rest) rfl (by rw [hb]; exact hdg) t st, q⟩
end
end VXM
/-! ===== END ===== -/
end
section
def RX0 : String := "VeneerLoft$Flitch"
def TX0 : u_T := fun k => match k with
  | 0 => ("VeneerLoft$Flitch", "thickness", "I", true)
  | 1 => ("VeneerLoft$Flitch", "length", "I", true)
  | 2 => ("VeneerLoft$Flitch", "swelling", "I", true)
  | 3 => ("VeneerLoft$Flitch", "count", "I", true)
  | 4 => ("VeneerLoft$Flitch", "widths", "[I", true)
  | 5 => ("VeneerLoft$Flitch", "figures", "[I", true)
  | 6 => ("VeneerLoft$Flitch", "taken", "[Z", true)
  | _ => ("VeneerLoft$Flitch", "usedCount", "I", false)
def tyX0 : Nat → FieldType := fun k => match k with
  | 0 => .int
  | 1 => .int
  | 2 => .int
  | 3 => .int
  | 4 => .array .int
  | 5 => .array .int
  | 6 => .array .boolean
  | _ => .int
theorem nmX0 : ∀ a, a < 8 → ∀ b, b < 8 → a ≠ b → (TX0 a).2.1 ≠ (TX0 b).2.1 := by decide +kernel
theorem tyX0_ok : ∀ k, k < 8 → parseFieldDescriptor (TX0 k).2.2.1 = some (tyX0 k) := by decide +kernel
abbrev cX0_init : ByteArray := prog_2_method_1_code
def yX0_init : MethodName := ⟨RX0, "<init>", "(LVeneerLoft$Log;CI)V"⟩
abbrev cX0_countLeaves : ByteArray := prog_2_method_2_code
def yX0_countLeaves : MethodName := ⟨RX0, "countLeaves", "(ICI)I"⟩
abbrev cX0_cutWidth : ByteArray := prog_2_method_3_code
def yX0_cutWidth : MethodName := ⟨RX0, "cutWidth", "(LVeneerLoft$Log;CI)I"⟩
abbrev cX0_rootOf : ByteArray := prog_2_method_4_code
def yX0_rootOf : MethodName := ⟨RX0, "rootOf", "(I)I"⟩
abbrev cX0_formFigure : ByteArray := prog_2_method_5_code
def yX0_formFigure : MethodName := ⟨RX0, "formFigure", "(C)I"⟩
abbrev cX0_wayFigure : ByteArray := prog_2_method_6_code
def yX0_wayFigure : MethodName := ⟨RX0, "wayFigure", "(LVeneerLoft$Log;CI)I"⟩
abbrev cX0_hasLeaf : ByteArray := prog_2_method_7_code
def yX0_hasLeaf : MethodName := ⟨RX0, "hasLeaf", "(I)Z"⟩
abbrev cX0_widthOf : ByteArray := prog_2_method_8_code
def yX0_widthOf : MethodName := ⟨RX0, "widthOf", "(I)I"⟩
abbrev cX0_areaOf : ByteArray := prog_2_method_9_code
def yX0_areaOf : MethodName := ⟨RX0, "areaOf", "(I)I"⟩
abbrev cX0_figureOf : ByteArray := prog_2_method_10_code
def yX0_figureOf : MethodName := ⟨RX0, "figureOf", "(I)I"⟩
abbrev cX0_isTaken : ByteArray := prog_2_method_11_code
def yX0_isTaken : MethodName := ⟨RX0, "isTaken", "(I)Z"⟩
abbrev cX0_isFree : ByteArray := prog_2_method_12_code
def yX0_isFree : MethodName := ⟨RX0, "isFree", "(III)Z"⟩
abbrev cX0_use : ByteArray := prog_2_method_13_code
def yX0_use : MethodName := ⟨RX0, "use", "(II)I"⟩
def RX1 : String := "VeneerLoft$Log"
def TX1 : u_T := fun k => match k with
  | 0 => ("VeneerLoft$Log", "wood", "C", true)
  | 1 => ("VeneerLoft$Log", "diameter", "I", true)
  | 2 => ("VeneerLoft$Log", "length", "I", true)
  | 3 => ("VeneerLoft$Log", "form", "C", true)
  | _ => ("VeneerLoft$Log", "sliced", "Z", false)
def tyX1 : Nat → FieldType := fun k => match k with
  | 0 => .char
  | 1 => .int
  | 2 => .int
  | 3 => .char
  | _ => .boolean
theorem nmX1 : ∀ a, a < 5 → ∀ b, b < 5 → a ≠ b → (TX1 a).2.1 ≠ (TX1 b).2.1 := by decide +kernel
theorem tyX1_ok : ∀ k, k < 5 → parseFieldDescriptor (TX1 k).2.2.1 = some (tyX1 k) := by decide +kernel
abbrev cX1_init : ByteArray := prog_3_method_1_code
def yX1_init : MethodName := ⟨RX1, "<init>", "(CIIC)V"⟩
abbrev cX1_radius : ByteArray := prog_3_method_2_code
def yX1_radius : MethodName := ⟨RX1, "radius", "()I"⟩
abbrev cX1_swelling : ByteArray := prog_3_method_3_code
def yX1_swelling : MethodName := ⟨RX1, "swelling", "()I"⟩
def RX2 : String := "VeneerLoft$Offcut"
def TX2 : u_T := fun k => match k with
  | 0 => ("VeneerLoft$Offcut", "width", "I", true)
  | _ => ("VeneerLoft$Offcut", "height", "I", true)
def tyX2 : Nat → FieldType := fun k => match k with
  | 0 => .int
  | _ => .int
theorem nmX2 : ∀ a, a < 2 → ∀ b, b < 2 → a ≠ b → (TX2 a).2.1 ≠ (TX2 b).2.1 := by decide +kernel
theorem tyX2_ok : ∀ k, k < 2 → parseFieldDescriptor (TX2 k).2.2.1 = some (tyX2 k) := by decide +kernel
abbrev cX2_init : ByteArray := prog_4_method_1_code
def yX2_init : MethodName := ⟨RX2, "<init>", "(II)V"⟩
abbrev cX2_surface : ByteArray := prog_4_method_2_code
def yX2_surface : MethodName := ⟨RX2, "surface", "()I"⟩
abbrev cX2_isSmallerThan : ByteArray := prog_4_method_3_code
def yX2_isSmallerThan : MethodName := ⟨RX2, "isSmallerThan", "(LVeneerLoft$Offcut;)Z"⟩
def RX3 : String := "VeneerLoft$Packet"
def TX3 : u_T := fun k => match k with
  | 0 => ("VeneerLoft$Packet", "flitch", "LVeneerLoft$Flitch;", true)
  | 1 => ("VeneerLoft$Packet", "first", "I", true)
  | _ => ("VeneerLoft$Packet", "many", "I", true)
def tyX3 : Nat → FieldType := fun k => match k with
  | 0 => .object "VeneerLoft$Flitch"
  | 1 => .int
  | _ => .int
theorem nmX3 : ∀ a, a < 3 → ∀ b, b < 3 → a ≠ b → (TX3 a).2.1 ≠ (TX3 b).2.1 := by decide +kernel
theorem tyX3_ok : ∀ k, k < 3 → parseFieldDescriptor (TX3 k).2.2.1 = some (tyX3 k) := by decide +kernel
abbrev cX3_init : ByteArray := prog_5_method_1_code
def yX3_init : MethodName := ⟨RX3, "<init>", "(LVeneerLoft$Flitch;II)V"⟩
abbrev cX3_holds : ByteArray := prog_5_method_2_code
def yX3_holds : MethodName := ⟨RX3, "holds", "(LVeneerLoft$Flitch;I)Z"⟩
abbrev cX3_leafFor : ByteArray := prog_5_method_3_code
def yX3_leafFor : MethodName := ⟨RX3, "leafFor", "(II)I"⟩
abbrev cX3_pullBy : ByteArray := prog_5_method_4_code
def yX3_pullBy : MethodName := ⟨RX3, "pullBy", "(I)I"⟩
def RX4 : String := "VeneerLoft$Panel"
def TX4 : u_T := fun k => match k with
  | 0 => ("VeneerLoft$Panel", "width", "I", true)
  | 1 => ("VeneerLoft$Panel", "height", "I", true)
  | 2 => ("VeneerLoft$Panel", "core", "C", true)
  | 3 => ("VeneerLoft$Panel", "thickness", "I", true)
  | 4 => ("VeneerLoft$Panel", "face", "LVeneerLoft$Packet;", false)
  | 5 => ("VeneerLoft$Panel", "back", "LVeneerLoft$Packet;", false)
  | 6 => ("VeneerLoft$Panel", "faceJump", "I", false)
  | 7 => ("VeneerLoft$Panel", "pressed", "Z", false)
  | 8 => ("VeneerLoft$Panel", "pressedAir", "I", false)
  | 9 => ("VeneerLoft$Panel", "blisters", "I", false)
  | 10 => ("VeneerLoft$Panel", "left", "I", false)
  | 11 => ("VeneerLoft$Panel", "shine", "I", false)
  | 12 => ("VeneerLoft$Panel", "charges", "I", false)
  | _ => ("VeneerLoft$Panel", "ghostCount", "I", false)
def tyX4 : Nat → FieldType := fun k => match k with
  | 0 => .int
  | 1 => .int
  | 2 => .char
  | 3 => .int
  | 4 => .object "VeneerLoft$Packet"
  | 5 => .object "VeneerLoft$Packet"
  | 6 => .int
  | 7 => .boolean
  | 8 => .int
  | 9 => .int
  | 10 => .int
  | 11 => .int
  | 12 => .int
  | _ => .int
theorem nmX4 : ∀ a, a < 14 → ∀ b, b < 14 → a ≠ b → (TX4 a).2.1 ≠ (TX4 b).2.1 := by decide +kernel
theorem tyX4_ok : ∀ k, k < 14 → parseFieldDescriptor (TX4 k).2.2.1 = some (tyX4 k) := by decide +kernel
abbrev cX4_init : ByteArray := prog_6_method_1_code
def yX4_init : MethodName := ⟨RX4, "<init>", "(IICI)V"⟩
abbrev cX4_surface : ByteArray := prog_6_method_2_code
def yX4_surface : MethodName := ⟨RX4, "surface", "()I"⟩
abbrev cX4_cupAt : ByteArray := prog_6_method_3_code
def yX4_cupAt : MethodName := ⟨RX4, "cupAt", "(I)I"⟩
abbrev cX4_pullOf : ByteArray := prog_6_method_4_code
def yX4_pullOf : MethodName := ⟨RX4, "pullOf", "(LVeneerLoft$Packet;I)I"⟩
abbrev cX4_isFlatAt : ByteArray := prog_6_method_5_code
def yX4_isFlatAt : MethodName := ⟨RX4, "isFlatAt", "(I)Z"⟩
abbrev cX4_isWornThrough : ByteArray := prog_6_method_6_code
def yX4_isWornThrough : MethodName := ⟨RX4, "isWornThrough", "()Z"⟩
abbrev cX4_polish : ByteArray := prog_6_method_7_code
def yX4_polish : MethodName := ⟨RX4, "polish", "(I)V"⟩
abbrev cX4_worth : ByteArray := prog_6_method_8_code
def yX4_worth : MethodName := ⟨RX4, "worth", "()I"⟩
def RX5 : String := "VeneerLoft$Picture"
def TX5 : u_T := fun k => match k with
  | 0 => ("VeneerLoft$Picture", "fields", "[I", true)
  | 1 => ("VeneerLoft$Picture", "shades", "[I", true)
  | 2 => ("VeneerLoft$Picture", "seen", "[Z", true)
  | 3 => ("VeneerLoft$Picture", "queue", "[I", true)
  | 4 => ("VeneerLoft$Picture", "packet", "LVeneerLoft$Packet;", false)
  | 5 => ("VeneerLoft$Picture", "pieceCount", "I", false)
  | 6 => ("VeneerLoft$Picture", "islandCount", "I", false)
  | _ => ("VeneerLoft$Picture", "placeCount", "I", false)
def tyX5 : Nat → FieldType := fun k => match k with
  | 0 => .array .int
  | 1 => .array .int
  | 2 => .array .boolean
  | 3 => .array .int
  | 4 => .object "VeneerLoft$Packet"
  | 5 => .int
  | 6 => .int
  | _ => .int
theorem nmX5 : ∀ a, a < 8 → ∀ b, b < 8 → a ≠ b → (TX5 a).2.1 ≠ (TX5 b).2.1 := by decide +kernel
theorem tyX5_ok : ∀ k, k < 8 → parseFieldDescriptor (TX5 k).2.2.1 = some (tyX5 k) := by decide +kernel
abbrev cX5_init : ByteArray := prog_7_method_1_code
def yX5_init : MethodName := ⟨RX5, "<init>", "()V"⟩
abbrev cX5_fieldOf : ByteArray := prog_7_method_2_code
def yX5_fieldOf : MethodName := ⟨RX5, "fieldOf", "(I)I"⟩
abbrev cX5_paint : ByteArray := prog_7_method_3_code
def yX5_paint : MethodName := ⟨RX5, "paint", "(IIII)V"⟩
abbrev cX5_countPieces : ByteArray := prog_7_method_4_code
def yX5_countPieces : MethodName := ⟨RX5, "countPieces", "()V"⟩
abbrev cX5_gatherPiece : ByteArray := prog_7_method_5_code
def yX5_gatherPiece : MethodName := ⟨RX5, "gatherPiece", "(I)I"⟩
abbrev cX5_enqueue : ByteArray := prog_7_method_6_code
def yX5_enqueue : MethodName := ⟨RX5, "enqueue", "(II)I"⟩
abbrev cX5_isIsland : ByteArray := prog_7_method_7_code
def yX5_isIsland : MethodName := ⟨RX5, "isIsland", "(I)Z"⟩
abbrev cX5_darken : ByteArray := prog_7_method_8_code
def yX5_darken : MethodName := ⟨RX5, "darken", "(II)I"⟩
abbrev cX5_countBurnt : ByteArray := prog_7_method_9_code
def yX5_countBurnt : MethodName := ⟨RX5, "countBurnt", "()I"⟩
def RX6 : String := "VeneerLoft"
def TX6 : u_T := fun k => match k with
  | 0 => ("VeneerLoft", "logs", "Ljava/util/ArrayList;", true)
  | 1 => ("VeneerLoft", "flitches", "Ljava/util/ArrayList;", true)
  | 2 => ("VeneerLoft", "panels", "Ljava/util/ArrayList;", true)
  | 3 => ("VeneerLoft", "pictures", "Ljava/util/ArrayList;", true)
  | 4 => ("VeneerLoft", "offcutList", "Ljava/util/ArrayList;", true)
  | 5 => ("VeneerLoft", "airNow", "I", false)
  | 6 => ("VeneerLoft", "faceArea", "I", false)
  | 7 => ("VeneerLoft", "backArea", "I", false)
  | 8 => ("VeneerLoft", "pictureArea", "I", false)
  | 9 => ("VeneerLoft", "repairArea", "I", false)
  | _ => ("VeneerLoft", "wasteArea", "I", false)
def tyX6 : Nat → FieldType := fun k => match k with
  | 0 => .object "java/util/ArrayList"
  | 1 => .object "java/util/ArrayList"
  | 2 => .object "java/util/ArrayList"
  | 3 => .object "java/util/ArrayList"
  | 4 => .object "java/util/ArrayList"
  | 5 => .int
  | 6 => .int
  | 7 => .int
  | 8 => .int
  | 9 => .int
  | _ => .int
theorem nmX6 : ∀ a, a < 11 → ∀ b, b < 11 → a ≠ b → (TX6 a).2.1 ≠ (TX6 b).2.1 := by decide +kernel
theorem tyX6_ok : ∀ k, k < 11 → parseFieldDescriptor (TX6 k).2.2.1 = some (tyX6 k) := by decide +kernel
abbrev cX6_init : ByteArray := prog_1_method_1_code
def yX6_init : MethodName := ⟨RX6, "<init>", "()V"⟩
abbrev cX6_log : ByteArray := prog_1_method_2_code
def yX6_log : MethodName := ⟨RX6, "log", "(CIIC)I"⟩
abbrev cX6_slice : ByteArray := prog_1_method_3_code
def yX6_slice : MethodName := ⟨RX6, "slice", "(ICI)I"⟩
abbrev cX6_leaves : ByteArray := prog_1_method_4_code
def yX6_leaves : MethodName := ⟨RX6, "leaves", "(I)I"⟩
abbrev cX6_width : ByteArray := prog_1_method_5_code
def yX6_width : MethodName := ⟨RX6, "width", "(II)I"⟩
abbrev cX6_area : ByteArray := prog_1_method_6_code
def yX6_area : MethodName := ⟨RX6, "area", "(II)I"⟩
abbrev cX6_figure : ByteArray := prog_1_method_7_code
def yX6_figure : MethodName := ⟨RX6, "figure", "(II)I"⟩
abbrev cX6_isUsed : ByteArray := prog_1_method_8_code
def yX6_isUsed : MethodName := ⟨RX6, "isUsed", "(II)Z"⟩
abbrev cX6_panel : ByteArray := prog_1_method_9_code
def yX6_panel : MethodName := ⟨RX6, "panel", "(IICI)I"⟩
abbrev cX6_face : ByteArray := prog_1_method_10_code
def yX6_face : MethodName := ⟨RX6, "face", "(IIIIC)I"⟩
abbrev cX6_back : ByteArray := prog_1_method_11_code
def yX6_back : MethodName := ⟨RX6, "back", "(IIII)I"⟩
abbrev cX6_jump : ByteArray := prog_1_method_12_code
def yX6_jump : MethodName := ⟨RX6, "jump", "(I)I"⟩
abbrev cX6_bestFirst : ByteArray := prog_1_method_13_code
def yX6_bestFirst : MethodName := ⟨RX6, "bestFirst", "(IIIC)I"⟩
abbrev cX6_press : ByteArray := prog_1_method_14_code
def yX6_press : MethodName := ⟨RX6, "press", "(IIII)I"⟩
abbrev cX6_slit : ByteArray := prog_1_method_15_code
def yX6_slit : MethodName := ⟨RX6, "slit", "(I)I"⟩
abbrev cX6_air : ByteArray := prog_1_method_16_code
def yX6_air : MethodName := ⟨RX6, "air", "(I)I"⟩
abbrev cX6_cup : ByteArray := prog_1_method_17_code
def yX6_cup : MethodName := ⟨RX6, "cup", "(II)I"⟩
abbrev cX6_isFlat : ByteArray := prog_1_method_18_code
def yX6_isFlat : MethodName := ⟨RX6, "isFlat", "(I)Z"⟩
abbrev cX6_cupMonth : ByteArray := prog_1_method_19_code
def yX6_cupMonth : MethodName := ⟨RX6, "cupMonth", "(I)I"⟩
abbrev cX6_scrape : ByteArray := prog_1_method_20_code
def yX6_scrape : MethodName := ⟨RX6, "scrape", "(II)I"⟩
abbrev cX6_isThrough : ByteArray := prog_1_method_21_code
def yX6_isThrough : MethodName := ⟨RX6, "isThrough", "(I)Z"⟩
abbrev cX6_pad : ByteArray := prog_1_method_22_code
def yX6_pad : MethodName := ⟨RX6, "pad", "(II)I"⟩
abbrev cX6_rest : ByteArray := prog_1_method_23_code
def yX6_rest : MethodName := ⟨RX6, "rest", "()I"⟩
abbrev cX6_ghosts : ByteArray := prog_1_method_24_code
def yX6_ghosts : MethodName := ⟨RX6, "ghosts", "(I)I"⟩
abbrev cX6_picture : ByteArray := prog_1_method_25_code
def yX6_picture : MethodName := ⟨RX6, "picture", "()I"⟩
abbrev cX6_draw : ByteArray := prog_1_method_26_code
def yX6_draw : MethodName := ⟨RX6, "draw", "(IIIIC)I"⟩
abbrev cX6_fieldAt : ByteArray := prog_1_method_27_code
def yX6_fieldAt : MethodName := ⟨RX6, "fieldAt", "(III)C"⟩
abbrev cX6_pieces : ByteArray := prog_1_method_28_code
def yX6_pieces : MethodName := ⟨RX6, "pieces", "(I)I"⟩
abbrev cX6_islands : ByteArray := prog_1_method_29_code
def yX6_islands : MethodName := ⟨RX6, "islands", "(I)I"⟩
abbrev cX6_saw : ByteArray := prog_1_method_30_code
def yX6_saw : MethodName := ⟨RX6, "saw", "(IIII)I"⟩
abbrev cX6_leafAt : ByteArray := prog_1_method_31_code
def yX6_leafAt : MethodName := ⟨RX6, "leafAt", "(IIII)I"⟩
abbrev cX6_contrast : ByteArray := prog_1_method_32_code
def yX6_contrast : MethodName := ⟨RX6, "contrast", "(II)I"⟩
abbrev cX6_sand : ByteArray := prog_1_method_33_code
def yX6_sand : MethodName := ⟨RX6, "sand", "(ICII)I"⟩
abbrev cX6_burnt : ByteArray := prog_1_method_34_code
def yX6_burnt : MethodName := ⟨RX6, "burnt", "(I)I"⟩
abbrev cX6_gap : ByteArray := prog_1_method_35_code
def yX6_gap : MethodName := ⟨RX6, "gap", "(III)I"⟩
abbrev cX6_offcuts : ByteArray := prog_1_method_36_code
def yX6_offcuts : MethodName := ⟨RX6, "offcuts", "(I)I"⟩
abbrev cX6_takeOffcut : ByteArray := prog_1_method_37_code
def yX6_takeOffcut : MethodName := ⟨RX6, "takeOffcut", "(II)I"⟩
abbrev cX6_account : ByteArray := prog_1_method_38_code
def yX6_account : MethodName := ⟨RX6, "account", "(C)I"⟩
abbrev cX6_price : ByteArray := prog_1_method_39_code
def yX6_price : MethodName := ⟨RX6, "price", "(I)I"⟩
abbrev cX6_usedShare : ByteArray := prog_1_method_40_code
def yX6_usedShare : MethodName := ⟨RX6, "usedShare", "()F"⟩
abbrev cX6_meanFigure : ByteArray := prog_1_method_41_code
def yX6_meanFigure : MethodName := ⟨RX6, "meanFigure", "()D"⟩
abbrev cX6_checksum : ByteArray := prog_1_method_42_code
def yX6_checksum : MethodName := ⟨RX6, "checksum", "()J"⟩
abbrev cX6_isTrue : ByteArray := prog_1_method_43_code
def yX6_isTrue : MethodName := ⟨RX6, "isTrue", "()Z"⟩
abbrev cX6_logOf : ByteArray := prog_1_method_44_code
def yX6_logOf : MethodName := ⟨RX6, "logOf", "(I)LVeneerLoft$Log;"⟩
abbrev cX6_flitchOf : ByteArray := prog_1_method_45_code
def yX6_flitchOf : MethodName := ⟨RX6, "flitchOf", "(I)LVeneerLoft$Flitch;"⟩
abbrev cX6_flitchWithLeaf : ByteArray := prog_1_method_46_code
def yX6_flitchWithLeaf : MethodName := ⟨RX6, "flitchWithLeaf", "(II)LVeneerLoft$Flitch;"⟩
abbrev cX6_flitchWithLeaves : ByteArray := prog_1_method_47_code
def yX6_flitchWithLeaves : MethodName := ⟨RX6, "flitchWithLeaves", "(III)LVeneerLoft$Flitch;"⟩
abbrev cX6_panelOf : ByteArray := prog_1_method_48_code
def yX6_panelOf : MethodName := ⟨RX6, "panelOf", "(I)LVeneerLoft$Panel;"⟩
abbrev cX6_pressedOnly : ByteArray := prog_1_method_49_code
def yX6_pressedOnly : MethodName := ⟨RX6, "pressedOnly", "(LVeneerLoft$Panel;)LVeneerLoft$Panel;"⟩
abbrev cX6_pictureOf : ByteArray := prog_1_method_50_code
def yX6_pictureOf : MethodName := ⟨RX6, "pictureOf", "(I)LVeneerLoft$Picture;"⟩
abbrev cX6_pictureWithPlace : ByteArray := prog_1_method_51_code
def yX6_pictureWithPlace : MethodName := ⟨RX6, "pictureWithPlace", "(III)LVeneerLoft$Picture;"⟩
abbrev cX6_packetWithCopy : ByteArray := prog_1_method_52_code
def yX6_packetWithCopy : MethodName := ⟨RX6, "packetWithCopy", "(LVeneerLoft$Picture;I)LVeneerLoft$Packet;"⟩
abbrev cX6_isIn : ByteArray := prog_1_method_53_code
def yX6_isIn : MethodName := ⟨RX6, "isIn", "(III)Z"⟩
abbrev cX6_within : ByteArray := prog_1_method_54_code
def yX6_within : MethodName := ⟨RX6, "within", "(III)I"⟩
abbrev cX6_isOneOf : ByteArray := prog_1_method_55_code
def yX6_isOneOf : MethodName := ⟨RX6, "isOneOf", "(Ljava/lang/String;C)Z"⟩
abbrev cX6_isField : ByteArray := prog_1_method_56_code
def yX6_isField : MethodName := ⟨RX6, "isField", "(C)Z"⟩
abbrev cX6_isPlace : ByteArray := prog_1_method_57_code
def yX6_isPlace : MethodName := ⟨RX6, "isPlace", "(II)Z"⟩
abbrev cX6_neighbour : ByteArray := prog_1_method_58_code
def yX6_neighbour : MethodName := ⟨RX6, "neighbour", "(II)I"⟩
abbrev cX6_stripOf : ByteArray := prog_1_method_59_code
def yX6_stripOf : MethodName := ⟨RX6, "stripOf", "(LVeneerLoft$Panel;I)I"⟩
abbrev cX6_canCover : ByteArray := prog_1_method_60_code
def yX6_canCover : MethodName := ⟨RX6, "canCover", "(LVeneerLoft$Panel;LVeneerLoft$Flitch;II)Z"⟩
abbrev cX6_jumpOf : ByteArray := prog_1_method_61_code
def yX6_jumpOf : MethodName := ⟨RX6, "jumpOf", "(LVeneerLoft$Flitch;IIC)I"⟩
abbrev cX6_edgeContrast : ByteArray := prog_1_method_62_code
def yX6_edgeContrast : MethodName := ⟨RX6, "edgeContrast", "(LVeneerLoft$Picture;LVeneerLoft$Packet;III)I"⟩
abbrev cX6_layOn : ByteArray := prog_1_method_63_code
def yX6_layOn : MethodName := ⟨RX6, "layOn", "(LVeneerLoft$Panel;LVeneerLoft$Packet;)I"⟩
abbrev cX6_offcutArea : ByteArray := prog_1_method_64_code
def yX6_offcutArea : MethodName := ⟨RX6, "offcutArea", "()I"⟩
abbrev cX6_unusedArea : ByteArray := prog_1_method_65_code
def yX6_unusedArea : MethodName := ⟨RX6, "unusedArea", "()I"⟩
abbrev cX6_areasAgree : ByteArray := prog_1_method_66_code
def yX6_areasAgree : MethodName := ⟨RX6, "areasAgree", "()Z"⟩
abbrev cX6_usesAgree : ByteArray := prog_1_method_67_code
def yX6_usesAgree : MethodName := ⟨RX6, "usesAgree", "()Z"⟩
abbrev cX6_countUses : ByteArray := prog_1_method_68_code
def yX6_countUses : MethodName := ⟨RX6, "countUses", "(LVeneerLoft$Flitch;I)I"⟩
abbrev cX6_usesIn : ByteArray := prog_1_method_69_code
def yX6_usesIn : MethodName := ⟨RX6, "usesIn", "(LVeneerLoft$Packet;LVeneerLoft$Flitch;I)I"⟩
abbrev cX6_placesAgree : ByteArray := prog_1_method_70_code
def yX6_placesAgree : MethodName := ⟨RX6, "placesAgree", "()Z"⟩
def RX7 : String := "VeneerLoftModel$Flitch"
def TX7 : u_T := fun k => match k with
  | 0 => ("VeneerLoftModel$Flitch", "log", "LVeneerLoftModel$Log;", true)
  | 1 => ("VeneerLoftModel$Flitch", "way", "C", true)
  | 2 => ("VeneerLoftModel$Flitch", "thick", "I", true)
  | _ => ("VeneerLoftModel$Flitch", "used", "[Z", true)
def tyX7 : Nat → FieldType := fun k => match k with
  | 0 => .object "VeneerLoftModel$Log"
  | 1 => .char
  | 2 => .int
  | _ => .array .boolean
theorem nmX7 : ∀ a, a < 4 → ∀ b, b < 4 → a ≠ b → (TX7 a).2.1 ≠ (TX7 b).2.1 := by decide +kernel
theorem tyX7_ok : ∀ k, k < 4 → parseFieldDescriptor (TX7 k).2.2.1 = some (tyX7 k) := by decide +kernel
abbrev cX7_init : ByteArray := prog_10_method_1_code
def yX7_init : MethodName := ⟨RX7, "<init>", "(LVeneerLoftModel$Log;CI)V"⟩
abbrev cX7_width : ByteArray := prog_10_method_2_code
def yX7_width : MethodName := ⟨RX7, "width", "(I)I"⟩
abbrev cX7_area : ByteArray := prog_10_method_3_code
def yX7_area : MethodName := ⟨RX7, "area", "(I)I"⟩
abbrev cX7_figure : ByteArray := prog_10_method_4_code
def yX7_figure : MethodName := ⟨RX7, "figure", "(I)I"⟩
def RX8 : String := "VeneerLoftModel$Laid"
def TX8 : u_T := fun k => match k with
  | 0 => ("VeneerLoftModel$Laid", "flitch", "LVeneerLoftModel$Flitch;", true)
  | 1 => ("VeneerLoftModel$Laid", "first", "I", true)
  | _ => ("VeneerLoftModel$Laid", "many", "I", true)
def tyX8 : Nat → FieldType := fun k => match k with
  | 0 => .object "VeneerLoftModel$Flitch"
  | 1 => .int
  | _ => .int
theorem nmX8 : ∀ a, a < 3 → ∀ b, b < 3 → a ≠ b → (TX8 a).2.1 ≠ (TX8 b).2.1 := by decide +kernel
theorem tyX8_ok : ∀ k, k < 3 → parseFieldDescriptor (TX8 k).2.2.1 = some (tyX8 k) := by decide +kernel
abbrev cX8_init : ByteArray := prog_11_method_1_code
def yX8_init : MethodName := ⟨RX8, "<init>", "(LVeneerLoftModel$Flitch;II)V"⟩
abbrev cX8_jump : ByteArray := prog_11_method_2_code
def yX8_jump : MethodName := ⟨RX8, "jump", "(C)I"⟩
def RX9 : String := "VeneerLoftModel$Log"
def TX9 : u_T := fun k => match k with
  | 0 => ("VeneerLoftModel$Log", "wood", "I", true)
  | 1 => ("VeneerLoftModel$Log", "diameter", "I", true)
  | 2 => ("VeneerLoftModel$Log", "length", "I", true)
  | 3 => ("VeneerLoftModel$Log", "form", "C", true)
  | _ => ("VeneerLoftModel$Log", "sliced", "Z", false)
def tyX9 : Nat → FieldType := fun k => match k with
  | 0 => .int
  | 1 => .int
  | 2 => .int
  | 3 => .char
  | _ => .boolean
theorem nmX9 : ∀ a, a < 5 → ∀ b, b < 5 → a ≠ b → (TX9 a).2.1 ≠ (TX9 b).2.1 := by decide +kernel
theorem tyX9_ok : ∀ k, k < 5 → parseFieldDescriptor (TX9 k).2.2.1 = some (tyX9 k) := by decide +kernel
abbrev cX9_init : ByteArray := prog_12_method_1_code
def yX9_init : MethodName := ⟨RX9, "<init>", "(IIIC)V"⟩
def RX10 : String := "VeneerLoftModel$Panel"
def TX10 : u_T := fun k => match k with
  | 0 => ("VeneerLoftModel$Panel", "width", "I", true)
  | 1 => ("VeneerLoftModel$Panel", "height", "I", true)
  | 2 => ("VeneerLoftModel$Panel", "core", "I", true)
  | 3 => ("VeneerLoftModel$Panel", "face", "LVeneerLoftModel$Laid;", false)
  | 4 => ("VeneerLoftModel$Panel", "back", "LVeneerLoftModel$Laid;", false)
  | 5 => ("VeneerLoftModel$Panel", "jump", "I", false)
  | 6 => ("VeneerLoftModel$Panel", "pressed", "Z", false)
  | 7 => ("VeneerLoftModel$Panel", "pressedAt", "I", false)
  | 8 => ("VeneerLoftModel$Panel", "blisters", "I", false)
  | 9 => ("VeneerLoftModel$Panel", "scraped", "I", false)
  | 10 => ("VeneerLoftModel$Panel", "shine", "I", false)
  | 11 => ("VeneerLoftModel$Panel", "ghosts", "I", false)
  | _ => ("VeneerLoftModel$Panel", "charges", "I", false)
def tyX10 : Nat → FieldType := fun k => match k with
  | 0 => .int
  | 1 => .int
  | 2 => .int
  | 3 => .object "VeneerLoftModel$Laid"
  | 4 => .object "VeneerLoftModel$Laid"
  | 5 => .int
  | 6 => .boolean
  | 7 => .int
  | 8 => .int
  | 9 => .int
  | 10 => .int
  | 11 => .int
  | _ => .int
theorem nmX10 : ∀ a, a < 13 → ∀ b, b < 13 → a ≠ b → (TX10 a).2.1 ≠ (TX10 b).2.1 := by decide +kernel
theorem tyX10_ok : ∀ k, k < 13 → parseFieldDescriptor (TX10 k).2.2.1 = some (tyX10 k) := by decide +kernel
abbrev cX10_init : ByteArray := prog_13_method_1_code
def yX10_init : MethodName := ⟨RX10, "<init>", "(III)V"⟩
abbrev cX10_left : ByteArray := prog_13_method_2_code
def yX10_left : MethodName := ⟨RX10, "left", "()I"⟩
abbrev cX10_leaves : ByteArray := prog_13_method_3_code
def yX10_leaves : MethodName := ⟨RX10, "leaves", "()I"⟩
def RX11 : String := "VeneerLoftModel$Picture"
def TX11 : u_T := fun k => match k with
  | 0 => ("VeneerLoftModel$Picture", "fields", "[I", true)
  | 1 => ("VeneerLoftModel$Picture", "packet", "LVeneerLoftModel$Laid;", false)
  | _ => ("VeneerLoftModel$Picture", "shades", "[I", true)
def tyX11 : Nat → FieldType := fun k => match k with
  | 0 => .array .int
  | 1 => .object "VeneerLoftModel$Laid"
  | _ => .array .int
theorem nmX11 : ∀ a, a < 3 → ∀ b, b < 3 → a ≠ b → (TX11 a).2.1 ≠ (TX11 b).2.1 := by decide +kernel
theorem tyX11_ok : ∀ k, k < 3 → parseFieldDescriptor (TX11 k).2.2.1 = some (tyX11 k) := by decide +kernel
abbrev cX11_init : ByteArray := prog_14_method_1_code
def yX11_init : MethodName := ⟨RX11, "<init>", "()V"⟩
abbrev cX11_pieces : ByteArray := prog_14_method_2_code
def yX11_pieces : MethodName := ⟨RX11, "pieces", "()[I"⟩
abbrev cX11_fills : ByteArray := prog_14_method_3_code
def yX11_fills : MethodName := ⟨RX11, "fills", "([III)V"⟩
def RX12 : String := "VeneerLoftModel"
def TX12 : u_T := fun k => match k with
  | 0 => ("VeneerLoftModel", "thrown", "I", false)
  | 1 => ("VeneerLoftModel", "logs", "Ljava/util/List;", true)
  | 2 => ("VeneerLoftModel", "flitches", "Ljava/util/List;", true)
  | 3 => ("VeneerLoftModel", "panels", "Ljava/util/List;", true)
  | 4 => ("VeneerLoftModel", "thicks", "Ljava/util/List;", true)
  | 5 => ("VeneerLoftModel", "offcuts", "Ljava/util/List;", true)
  | 6 => ("VeneerLoftModel", "repaired", "I", false)
  | 7 => ("VeneerLoftModel", "faces", "I", false)
  | 8 => ("VeneerLoftModel", "backs", "I", false)
  | 9 => ("VeneerLoftModel", "pictured", "I", false)
  | 10 => ("VeneerLoftModel", "waste", "I", false)
  | 11 => ("VeneerLoftModel", "air", "I", false)
  | _ => ("VeneerLoftModel", "pictures", "Ljava/util/List;", true)
def tyX12 : Nat → FieldType := fun k => match k with
  | 0 => .int
  | 1 => .object "java/util/List"
  | 2 => .object "java/util/List"
  | 3 => .object "java/util/List"
  | 4 => .object "java/util/List"
  | 5 => .object "java/util/List"
  | 6 => .int
  | 7 => .int
  | 8 => .int
  | 9 => .int
  | 10 => .int
  | 11 => .int
  | _ => .object "java/util/List"
theorem nmX12 : ∀ a, a < 13 → ∀ b, b < 13 → a ≠ b → (TX12 a).2.1 ≠ (TX12 b).2.1 := by decide +kernel
theorem tyX12_ok : ∀ k, k < 13 → parseFieldDescriptor (TX12 k).2.2.1 = some (tyX12 k) := by decide +kernel
abbrev cX12_init : ByteArray := prog_9_method_1_code
def yX12_init : MethodName := ⟨RX12, "<init>", "()V"⟩
abbrev cX12_thrown : ByteArray := prog_9_method_2_code
def yX12_thrown : MethodName := ⟨RX12, "thrown", "()I"⟩
abbrev cX12_in : ByteArray := prog_9_method_3_code
def yX12_in : MethodName := ⟨RX12, "in", "(JJJ)Z"⟩
abbrev cX12_isOf : ByteArray := prog_9_method_4_code
def yX12_isOf : MethodName := ⟨RX12, "isOf", "(Ljava/util/List;I)Z"⟩
abbrev cX12_fails : ByteArray := prog_9_method_5_code
def yX12_fails : MethodName := ⟨RX12, "fails", "(ZI)Z"⟩
abbrev cX12_begins : ByteArray := prog_9_method_6_code
def yX12_begins : MethodName := ⟨RX12, "begins", "()V"⟩
abbrev cX12_root : ByteArray := prog_9_method_7_code
def yX12_root : MethodName := ⟨RX12, "root", "(I)I"⟩
abbrev cX12_log : ByteArray := prog_9_method_8_code
def yX12_log : MethodName := ⟨RX12, "log", "(CIIC)I"⟩
abbrev cX12_slice : ByteArray := prog_9_method_9_code
def yX12_slice : MethodName := ⟨RX12, "slice", "(ICI)I"⟩
abbrev cX12_leaves : ByteArray := prog_9_method_10_code
def yX12_leaves : MethodName := ⟨RX12, "leaves", "(I)I"⟩
abbrev cX12_isLeaf : ByteArray := prog_9_method_11_code
def yX12_isLeaf : MethodName := ⟨RX12, "isLeaf", "(II)Z"⟩
abbrev cX12_noLeaf : ByteArray := prog_9_method_12_code
def yX12_noLeaf : MethodName := ⟨RX12, "noLeaf", "(II)Z"⟩
abbrev cX12_width : ByteArray := prog_9_method_13_code
def yX12_width : MethodName := ⟨RX12, "width", "(II)I"⟩
abbrev cX12_area : ByteArray := prog_9_method_14_code
def yX12_area : MethodName := ⟨RX12, "area", "(II)I"⟩
abbrev cX12_figure : ByteArray := prog_9_method_15_code
def yX12_figure : MethodName := ⟨RX12, "figure", "(II)I"⟩
abbrev cX12_isUsed : ByteArray := prog_9_method_16_code
def yX12_isUsed : MethodName := ⟨RX12, "isUsed", "(II)Z"⟩
abbrev cX12_panel : ByteArray := prog_9_method_17_code
def yX12_panel : MethodName := ⟨RX12, "panel", "(IICI)I"⟩
abbrev cX12_noPanel : ByteArray := prog_9_method_18_code
def yX12_noPanel : MethodName := ⟨RX12, "noPanel", "(I)Z"⟩
abbrev cX12_noRow : ByteArray := prog_9_method_19_code
def yX12_noRow : MethodName := ⟨RX12, "noRow", "(III)Z"⟩
abbrev cX12_strip : ByteArray := prog_9_method_20_code
def yX12_strip : MethodName := ⟨RX12, "strip", "(LVeneerLoftModel$Panel;I)I"⟩
abbrev cX12_canLie : ByteArray := prog_9_method_21_code
def yX12_canLie : MethodName := ⟨RX12, "canLie", "(LVeneerLoftModel$Panel;LVeneerLoftModel$Flitch;II)Z"⟩
abbrev cX12_lays : ByteArray := prog_9_method_22_code
def yX12_lays : MethodName := ⟨RX12, "lays", "(LVeneerLoftModel$Panel;LVeneerLoftModel$Laid;)I"⟩
abbrev cX12_face : ByteArray := prog_9_method_23_code
def yX12_face : MethodName := ⟨RX12, "face", "(IIIIC)I"⟩
abbrev cX12_back : ByteArray := prog_9_method_24_code
def yX12_back : MethodName := ⟨RX12, "back", "(IIII)I"⟩
abbrev cX12_jump : ByteArray := prog_9_method_25_code
def yX12_jump : MethodName := ⟨RX12, "jump", "(I)I"⟩
abbrev cX12_bestFirst : ByteArray := prog_9_method_26_code
def yX12_bestFirst : MethodName := ⟨RX12, "bestFirst", "(IIIC)I"⟩
abbrev cX12_press : ByteArray := prog_9_method_27_code
def yX12_press : MethodName := ⟨RX12, "press", "(IIII)I"⟩
abbrev cX12_slit : ByteArray := prog_9_method_28_code
def yX12_slit : MethodName := ⟨RX12, "slit", "(I)I"⟩
abbrev cX12_air : ByteArray := prog_9_method_29_code
def yX12_air : MethodName := ⟨RX12, "air", "(I)I"⟩
abbrev cX12_pull : ByteArray := prog_9_method_30_code
def yX12_pull : MethodName := ⟨RX12, "pull", "(LVeneerLoftModel$Laid;I)I"⟩
abbrev cX12_cupOf : ByteArray := prog_9_method_31_code
def yX12_cupOf : MethodName := ⟨RX12, "cupOf", "(LVeneerLoftModel$Panel;I)I"⟩
abbrev cX12_isFlat : ByteArray := prog_9_method_32_code
def yX12_isFlat : MethodName := ⟨RX12, "isFlat", "(LVeneerLoftModel$Panel;I)Z"⟩
abbrev cX12_cup : ByteArray := prog_9_method_33_code
def yX12_cup : MethodName := ⟨RX12, "cup", "(II)I"⟩
abbrev cX12_isFlat_ : ByteArray := prog_9_method_34_code
def yX12_isFlat_ : MethodName := ⟨RX12, "isFlat", "(I)Z"⟩
abbrev cX12_cupMonth : ByteArray := prog_9_method_35_code
def yX12_cupMonth : MethodName := ⟨RX12, "cupMonth", "(I)I"⟩
abbrev cX12_scrape : ByteArray := prog_9_method_36_code
def yX12_scrape : MethodName := ⟨RX12, "scrape", "(II)I"⟩
abbrev cX12_isThrough : ByteArray := prog_9_method_37_code
def yX12_isThrough : MethodName := ⟨RX12, "isThrough", "(I)Z"⟩
abbrev cX12_pad : ByteArray := prog_9_method_38_code
def yX12_pad : MethodName := ⟨RX12, "pad", "(II)I"⟩
abbrev cX12_rest : ByteArray := prog_9_method_39_code
def yX12_rest : MethodName := ⟨RX12, "rest", "()I"⟩
abbrev cX12_ghosts : ByteArray := prog_9_method_40_code
def yX12_ghosts : MethodName := ⟨RX12, "ghosts", "(I)I"⟩
abbrev cX12_beside : ByteArray := prog_9_method_41_code
def yX12_beside : MethodName := ⟨RX12, "beside", "(II)I"⟩
abbrev cX12_most : ByteArray := prog_9_method_42_code
def yX12_most : MethodName := ⟨RX12, "most", "([I)I"⟩
abbrev cX12_picture : ByteArray := prog_9_method_43_code
def yX12_picture : MethodName := ⟨RX12, "picture", "()I"⟩
abbrev cX12_noPicture : ByteArray := prog_9_method_44_code
def yX12_noPicture : MethodName := ⟨RX12, "noPicture", "(I)Z"⟩
abbrev cX12_draw : ByteArray := prog_9_method_45_code
def yX12_draw : MethodName := ⟨RX12, "draw", "(IIIIC)I"⟩
abbrev cX12_noPlace : ByteArray := prog_9_method_46_code
def yX12_noPlace : MethodName := ⟨RX12, "noPlace", "(III)Z"⟩
abbrev cX12_fieldAt : ByteArray := prog_9_method_47_code
def yX12_fieldAt : MethodName := ⟨RX12, "fieldAt", "(III)C"⟩
abbrev cX12_pieces : ByteArray := prog_9_method_48_code
def yX12_pieces : MethodName := ⟨RX12, "pieces", "(I)I"⟩
abbrev cX12_islands : ByteArray := prog_9_method_49_code
def yX12_islands : MethodName := ⟨RX12, "islands", "(I)I"⟩
abbrev cX12_saw : ByteArray := prog_9_method_50_code
def yX12_saw : MethodName := ⟨RX12, "saw", "(IIII)I"⟩
abbrev cX12_leafOf : ByteArray := prog_9_method_51_code
def yX12_leafOf : MethodName := ⟨RX12, "leafOf", "(LVeneerLoftModel$Picture;II)I"⟩
abbrev cX12_noCopy : ByteArray := prog_9_method_52_code
def yX12_noCopy : MethodName := ⟨RX12, "noCopy", "(II)Z"⟩
abbrev cX12_leafAt : ByteArray := prog_9_method_53_code
def yX12_leafAt : MethodName := ⟨RX12, "leafAt", "(IIII)I"⟩
abbrev cX12_contrast : ByteArray := prog_9_method_54_code
def yX12_contrast : MethodName := ⟨RX12, "contrast", "(II)I"⟩
abbrev cX12_sand : ByteArray := prog_9_method_55_code
def yX12_sand : MethodName := ⟨RX12, "sand", "(ICII)I"⟩
abbrev cX12_burnt : ByteArray := prog_9_method_56_code
def yX12_burnt : MethodName := ⟨RX12, "burnt", "(I)I"⟩
abbrev cX12_gap : ByteArray := prog_9_method_57_code
def yX12_gap : MethodName := ⟨RX12, "gap", "(III)I"⟩
abbrev cX12_offcuts : ByteArray := prog_9_method_58_code
def yX12_offcuts : MethodName := ⟨RX12, "offcuts", "(I)I"⟩
abbrev cX12_takeOffcut : ByteArray := prog_9_method_59_code
def yX12_takeOffcut : MethodName := ⟨RX12, "takeOffcut", "(II)I"⟩
abbrev cX12_unused : ByteArray := prog_9_method_60_code
def yX12_unused : MethodName := ⟨RX12, "unused", "()I"⟩
abbrev cX12_account : ByteArray := prog_9_method_61_code
def yX12_account : MethodName := ⟨RX12, "account", "(C)I"⟩
abbrev cX12_priceOf : ByteArray := prog_9_method_62_code
def yX12_priceOf : MethodName := ⟨RX12, "priceOf", "(LVeneerLoftModel$Panel;)I"⟩
abbrev cX12_price : ByteArray := prog_9_method_63_code
def yX12_price : MethodName := ⟨RX12, "price", "(I)I"⟩
abbrev cX12_leavesIn : ByteArray := prog_9_method_64_code
def yX12_leavesIn : MethodName := ⟨RX12, "leavesIn", "(Z)I"⟩
abbrev cX12_usedShare : ByteArray := prog_9_method_65_code
def yX12_usedShare : MethodName := ⟨RX12, "usedShare", "()F"⟩
abbrev cX12_meanFigure : ByteArray := prog_9_method_66_code
def yX12_meanFigure : MethodName := ⟨RX12, "meanFigure", "()D"⟩
abbrev cX12_checksum : ByteArray := prog_9_method_67_code
def yX12_checksum : MethodName := ⟨RX12, "checksum", "()J"⟩
abbrev cX12_isTrue : ByteArray := prog_9_method_68_code
def yX12_isTrue : MethodName := ⟨RX12, "isTrue", "()Z"⟩
def RJx145de : String := "java/io/Serializable"
def TJx145de : u_T := fun k => match k with
  | _ => ("", "", "", false)
def tyJx145de : Nat → FieldType := fun k => match k with
  | _ => .int
theorem nmJx145de : ∀ a, a < 0 → ∀ b, b < 0 → a ≠ b → (TJx145de a).2.1 ≠ (TJx145de b).2.1 := by decide +kernel
theorem tyJx145de_ok : ∀ k, k < 0 → parseFieldDescriptor (TJx145de k).2.2.1 = some (tyJx145de k) := by decide +kernel
def RJx00060 : String := "java/lang/ArrayIndexOutOfBoundsException"
def TJx00060 : u_T := fun k => match k with
  | 0 => ("java/lang/Throwable", "backtrace", "Ljava/lang/Object;", false)
  | 1 => ("java/lang/Throwable", "detailMessage", "Ljava/lang/String;", false)
  | 2 => ("java/lang/Throwable", "cause", "Ljava/lang/Throwable;", false)
  | 3 => ("java/lang/Throwable", "stackTrace", "[Ljava/lang/StackTraceElement;", false)
  | 4 => ("java/lang/Throwable", "depth", "I", false)
  | _ => ("java/lang/Throwable", "suppressedExceptions", "Ljava/util/List;", false)
def tyJx00060 : Nat → FieldType := fun k => match k with
  | 0 => .object "java/lang/Object"
  | 1 => .object "java/lang/String"
  | 2 => .object "java/lang/Throwable"
  | 3 => .array (.object "java/lang/StackTraceElement")
  | 4 => .int
  | _ => .object "java/util/List"
theorem nmJx00060 : ∀ a, a < 6 → ∀ b, b < 6 → a ≠ b → (TJx00060 a).2.1 ≠ (TJx00060 b).2.1 := by decide +kernel
theorem tyJx00060_ok : ∀ k, k < 6 → parseFieldDescriptor (TJx00060 k).2.2.1 = some (tyJx00060 k) := by decide +kernel
abbrev cJx00060_init_a7421 : ByteArray := prog_17_method_2_code
def yJx00060_init_a7421 : MethodName := ⟨RJx00060, "<init>", "(Ljava/lang/String;)V"⟩
def RJx9f9b0 : String := "java/lang/CharSequence"
def TJx9f9b0 : u_T := fun k => match k with
  | _ => ("", "", "", false)
def tyJx9f9b0 : Nat → FieldType := fun k => match k with
  | _ => .int
theorem nmJx9f9b0 : ∀ a, a < 0 → ∀ b, b < 0 → a ≠ b → (TJx9f9b0 a).2.1 ≠ (TJx9f9b0 b).2.1 := by decide +kernel
theorem tyJx9f9b0_ok : ∀ k, k < 0 → parseFieldDescriptor (TJx9f9b0 k).2.2.1 = some (tyJx9f9b0 k) := by decide +kernel
def RJ11 : String := "java/lang/Character"
def TJ11 : u_T := fun k => match k with
  | _ => ("", "", "", false)
def tyJ11 : Nat → FieldType := fun k => match k with
  | _ => .int
theorem nmJ11 : ∀ a, a < 0 → ∀ b, b < 0 → a ≠ b → (TJ11 a).2.1 ≠ (TJ11 b).2.1 := by decide +kernel
theorem tyJ11_ok : ∀ k, k < 0 → parseFieldDescriptor (TJ11 k).2.2.1 = some (tyJ11 k) := by decide +kernel
abbrev cJ11_isValidCodePoint_9a6ad : ByteArray := prog_19_method_11_code
def yJ11_isValidCodePoint_9a6ad : MethodName := ⟨RJ11, "isValidCodePoint", "(I)Z"⟩
abbrev cJ11_highSurrogate_5068e : ByteArray := prog_19_method_28_code
def yJ11_highSurrogate_5068e : MethodName := ⟨RJ11, "highSurrogate", "(I)C"⟩
abbrev cJ11_lowSurrogate_5068e : ByteArray := prog_19_method_29_code
def yJ11_lowSurrogate_5068e : MethodName := ⟨RJ11, "lowSurrogate", "(I)C"⟩
def RJx8e188 : String := "java/lang/Cloneable"
def TJx8e188 : u_T := fun k => match k with
  | _ => ("", "", "", false)
def tyJx8e188 : Nat → FieldType := fun k => match k with
  | _ => .int
theorem nmJx8e188 : ∀ a, a < 0 → ∀ b, b < 0 → a ≠ b → (TJx8e188 a).2.1 ≠ (TJx8e188 b).2.1 := by decide +kernel
theorem tyJx8e188_ok : ∀ k, k < 0 → parseFieldDescriptor (TJx8e188 k).2.2.1 = some (tyJx8e188 k) := by decide +kernel
def RJxb160c : String := "java/lang/Comparable"
def TJxb160c : u_T := fun k => match k with
  | _ => ("", "", "", false)
def tyJxb160c : Nat → FieldType := fun k => match k with
  | _ => .int
theorem nmJxb160c : ∀ a, a < 0 → ∀ b, b < 0 → a ≠ b → (TJxb160c a).2.1 ≠ (TJxb160c b).2.1 := by decide +kernel
theorem tyJxb160c_ok : ∀ k, k < 0 → parseFieldDescriptor (TJxb160c k).2.2.1 = some (tyJxb160c k) := by decide +kernel
def RJxabbfe : String := "java/lang/Integer$IntegerCache"
def TJxabbfe : u_T := fun k => match k with
  | _ => ("", "", "", false)
def tyJxabbfe : Nat → FieldType := fun k => match k with
  | _ => .int
theorem nmJxabbfe : ∀ a, a < 0 → ∀ b, b < 0 → a ≠ b → (TJxabbfe a).2.1 ≠ (TJxabbfe b).2.1 := by decide +kernel
theorem tyJxabbfe_ok : ∀ k, k < 0 → parseFieldDescriptor (TJxabbfe k).2.2.1 = some (tyJxabbfe k) := by decide +kernel
def RJ6 : String := "java/lang/Integer"
def TJ6 : u_T := fun k => match k with
  | _ => ("java/lang/Integer", "value", "I", true)
def tyJ6 : Nat → FieldType := fun k => match k with
  | _ => .int
theorem nmJ6 : ∀ a, a < 1 → ∀ b, b < 1 → a ≠ b → (TJ6 a).2.1 ≠ (TJ6 b).2.1 := by decide +kernel
theorem tyJ6_ok : ∀ k, k < 1 → parseFieldDescriptor (TJ6 k).2.2.1 = some (tyJ6 k) := by decide +kernel
abbrev cJ6_valueOf_2dffe : ByteArray := prog_26_method_22_code
def yJ6_valueOf_2dffe : MethodName := ⟨RJ6, "valueOf", "(I)Ljava/lang/Integer;"⟩
abbrev cJ6_init_d00df : ByteArray := prog_26_method_23_code
def yJ6_init_d00df : MethodName := ⟨RJ6, "<init>", "(I)V"⟩
abbrev cJ6_intValue_8abf5 : ByteArray := prog_26_method_27_code
def yJ6_intValue_8abf5 : MethodName := ⟨RJ6, "intValue", "()I"⟩
def RJxab1ab : String := "java/lang/Iterable"
def TJxab1ab : u_T := fun k => match k with
  | _ => ("", "", "", false)
def tyJxab1ab : Nat → FieldType := fun k => match k with
  | _ => .int
theorem nmJxab1ab : ∀ a, a < 0 → ∀ b, b < 0 → a ≠ b → (TJxab1ab a).2.1 ≠ (TJxab1ab b).2.1 := by decide +kernel
theorem tyJxab1ab_ok : ∀ k, k < 0 → parseFieldDescriptor (TJxab1ab k).2.2.1 = some (tyJxab1ab k) := by decide +kernel
def RJ9 : String := "java/lang/Math"
def TJ9 : u_T := fun k => match k with
  | _ => ("", "", "", false)
def tyJ9 : Nat → FieldType := fun k => match k with
  | _ => .int
theorem nmJ9 : ∀ a, a < 0 → ∀ b, b < 0 → a ≠ b → (TJ9 a).2.1 ≠ (TJ9 b).2.1 := by decide +kernel
theorem tyJ9_ok : ∀ k, k < 0 → parseFieldDescriptor (TJ9 k).2.2.1 = some (tyJ9 k) := by decide +kernel
abbrev cJ9_abs_0f7a4 : ByteArray := prog_29_method_59_code
def yJ9_abs_0f7a4 : MethodName := ⟨RJ9, "abs", "(I)I"⟩
abbrev cJ9_max_7cf53 : ByteArray := prog_29_method_65_code
def yJ9_max_7cf53 : MethodName := ⟨RJ9, "max", "(II)I"⟩
abbrev cJ9_min_7cf53 : ByteArray := prog_29_method_69_code
def yJ9_min_7cf53 : MethodName := ⟨RJ9, "min", "(II)I"⟩
def RJxd2413 : String := "java/lang/Number"
def TJxd2413 : u_T := fun k => match k with
  | _ => ("", "", "", false)
def tyJxd2413 : Nat → FieldType := fun k => match k with
  | _ => .int
theorem nmJxd2413 : ∀ a, a < 0 → ∀ b, b < 0 → a ≠ b → (TJxd2413 a).2.1 ≠ (TJxd2413 b).2.1 := by decide +kernel
theorem tyJxd2413_ok : ∀ k, k < 0 → parseFieldDescriptor (TJxd2413 k).2.2.1 = some (tyJxd2413 k) := by decide +kernel
abbrev cJxd2413_init_da8c8 : ByteArray := prog_30_method_1_code
def yJxd2413_init_da8c8 : MethodName := ⟨RJxd2413, "<init>", "()V"⟩
def RJ0 : String := "java/lang/String"
def TJ0 : u_T := fun k => match k with
  | 0 => ("java/lang/String", "value", "[B", true)
  | _ => ("java/lang/String", "coder", "B", true)
def tyJ0 : Nat → FieldType := fun k => match k with
  | 0 => .array .byte
  | _ => .byte
theorem nmJ0 : ∀ a, a < 2 → ∀ b, b < 2 → a ≠ b → (TJ0 a).2.1 ≠ (TJ0 b).2.1 := by decide +kernel
theorem tyJ0_ok : ∀ k, k < 2 → parseFieldDescriptor (TJ0 k).2.2.1 = some (tyJ0 k) := by decide +kernel
abbrev cJ0_length_8abf5 : ByteArray := prog_32_method_54_code
def yJ0_length_8abf5 : MethodName := ⟨RJ0, "length", "()I"⟩
abbrev cJ0_indexOf_0f7a4 : ByteArray := prog_32_method_79_code
def yJ0_indexOf_0f7a4 : MethodName := ⟨RJ0, "indexOf", "(I)I"⟩
abbrev cJ0_indexOf_7cf53 : ByteArray := prog_32_method_80_code
def yJ0_indexOf_7cf53 : MethodName := ⟨RJ0, "indexOf", "(II)I"⟩
abbrev cJ0_coder_7d493 : ByteArray := prog_32_method_152_code
def yJ0_coder_7d493 : MethodName := ⟨RJ0, "coder", "()B"⟩
abbrev cJ0_isLatin1_aae02 : ByteArray := prog_32_method_154_code
def yJ0_isLatin1_aae02 : MethodName := ⟨RJ0, "isLatin1", "()Z"⟩
abbrev cJ0_checkBoundsBeginEnd_23922 : ByteArray := prog_32_method_158_code
def yJ0_checkBoundsBeginEnd_23922 : MethodName := ⟨RJ0, "checkBoundsBeginEnd", "(III)V"⟩
def RJ1 : String := "java/lang/StringLatin1"
def TJ1 : u_T := fun k => match k with
  | _ => ("", "", "", false)
def tyJ1 : Nat → FieldType := fun k => match k with
  | _ => .int
theorem nmJ1 : ∀ a, a < 0 → ∀ b, b < 0 → a ≠ b → (TJ1 a).2.1 ≠ (TJ1 b).2.1 := by decide +kernel
theorem tyJ1_ok : ∀ k, k < 0 → parseFieldDescriptor (TJ1 k).2.2.1 = some (tyJ1 k) := by decide +kernel
abbrev cJ1_canEncode_9a6ad : ByteArray := prog_33_method_4_code
def yJ1_canEncode_9a6ad : MethodName := ⟨RJ1, "canEncode", "(I)Z"⟩
abbrev cJ1_indexOf_4cfef : ByteArray := prog_33_method_22_code
def yJ1_indexOf_4cfef : MethodName := ⟨RJ1, "indexOf", "([BIII)I"⟩
abbrev cJ1_indexOfChar_4cfef : ByteArray := prog_33_method_23_code
def yJ1_indexOfChar_4cfef : MethodName := ⟨RJ1, "indexOfChar", "([BIII)I"⟩
def RJ2 : String := "java/lang/StringUTF16"
def TJ2 : u_T := fun k => match k with
  | _ => ("", "", "", false)
def tyJ2 : Nat → FieldType := fun k => match k with
  | _ => .int
theorem nmJ2 : ∀ a, a < 0 → ∀ b, b < 0 → a ≠ b → (TJ2 a).2.1 ≠ (TJ2 b).2.1 := by decide +kernel
theorem tyJ2_ok : ∀ k, k < 0 → parseFieldDescriptor (TJ2 k).2.2.1 = some (tyJ2 k) := by decide +kernel
abbrev cJ2_getChar_3b067 : ByteArray := prog_34_method_5_code
def yJ2_getChar_3b067 : MethodName := ⟨RJ2, "getChar", "([BI)C"⟩
abbrev cJ2_length_9d52b : ByteArray := prog_34_method_6_code
def yJ2_length_9d52b : MethodName := ⟨RJ2, "length", "([B)I"⟩
abbrev cJ2_indexOf_4cfef : ByteArray := prog_34_method_40_code
def yJ2_indexOf_4cfef : MethodName := ⟨RJ2, "indexOf", "([BIII)I"⟩
abbrev cJ2_indexOfChar_4cfef : ByteArray := prog_34_method_47_code
def yJ2_indexOfChar_4cfef : MethodName := ⟨RJ2, "indexOfChar", "([BIII)I"⟩
abbrev cJ2_indexOfCharUnsafe_4cfef : ByteArray := prog_34_method_48_code
def yJ2_indexOfCharUnsafe_4cfef : MethodName := ⟨RJ2, "indexOfCharUnsafe", "([BIII)I"⟩
abbrev cJ2_indexOfSupplementary_4cfef : ByteArray := prog_34_method_49_code
def yJ2_indexOfSupplementary_4cfef : MethodName := ⟨RJ2, "indexOfSupplementary", "([BIII)I"⟩
abbrev cJ2_checkBoundsBeginEnd_d044e : ByteArray := prog_34_method_93_code
def yJ2_checkBoundsBeginEnd_d044e : MethodName := ⟨RJ2, "checkBoundsBeginEnd", "(II[B)V"⟩
def RJ10 : String := "java/lang/System"
def TJ10 : u_T := fun k => match k with
  | _ => ("", "", "", false)
def tyJ10 : Nat → FieldType := fun k => match k with
  | _ => .int
theorem nmJ10 : ∀ a, a < 0 → ∀ b, b < 0 → a ≠ b → (TJ10 a).2.1 ≠ (TJ10 b).2.1 := by decide +kernel
theorem tyJ10_ok : ∀ k, k < 0 → parseFieldDescriptor (TJ10 k).2.2.1 = some (tyJ10 k) := by decide +kernel
def RJxfd54e : String := "java/lang/constant/Constable"
def TJxfd54e : u_T := fun k => match k with
  | _ => ("", "", "", false)
def tyJxfd54e : Nat → FieldType := fun k => match k with
  | _ => .int
theorem nmJxfd54e : ∀ a, a < 0 → ∀ b, b < 0 → a ≠ b → (TJxfd54e a).2.1 ≠ (TJxfd54e b).2.1 := by decide +kernel
theorem tyJxfd54e_ok : ∀ k, k < 0 → parseFieldDescriptor (TJxfd54e k).2.2.1 = some (tyJxfd54e k) := by decide +kernel
def RJx3cf43 : String := "java/lang/constant/ConstantDesc"
def TJx3cf43 : u_T := fun k => match k with
  | _ => ("", "", "", false)
def tyJx3cf43 : Nat → FieldType := fun k => match k with
  | _ => .int
theorem nmJx3cf43 : ∀ a, a < 0 → ∀ b, b < 0 → a ≠ b → (TJx3cf43 a).2.1 ≠ (TJx3cf43 b).2.1 := by decide +kernel
theorem tyJx3cf43_ok : ∀ k, k < 0 → parseFieldDescriptor (TJx3cf43 k).2.2.1 = some (tyJx3cf43 k) := by decide +kernel
def RJxa1e45 : String := "java/util/AbstractCollection"
def TJxa1e45 : u_T := fun k => match k with
  | _ => ("", "", "", false)
def tyJxa1e45 : Nat → FieldType := fun k => match k with
  | _ => .int
theorem nmJxa1e45 : ∀ a, a < 0 → ∀ b, b < 0 → a ≠ b → (TJxa1e45 a).2.1 ≠ (TJxa1e45 b).2.1 := by decide +kernel
theorem tyJxa1e45_ok : ∀ k, k < 0 → parseFieldDescriptor (TJxa1e45 k).2.2.1 = some (tyJxa1e45 k) := by decide +kernel
abbrev cJxa1e45_init_da8c8 : ByteArray := prog_40_method_1_code
def yJxa1e45_init_da8c8 : MethodName := ⟨RJxa1e45, "<init>", "()V"⟩
def RJxc12de : String := "java/util/AbstractList"
def TJxc12de : u_T := fun k => match k with
  | _ => ("", "", "", false)
def tyJxc12de : Nat → FieldType := fun k => match k with
  | _ => .int
theorem nmJxc12de : ∀ a, a < 0 → ∀ b, b < 0 → a ≠ b → (TJxc12de a).2.1 ≠ (TJxc12de b).2.1 := by decide +kernel
theorem tyJxc12de_ok : ∀ k, k < 0 → parseFieldDescriptor (TJxc12de k).2.2.1 = some (tyJxc12de k) := by decide +kernel
abbrev cJxc12de_init_da8c8 : ByteArray := prog_41_method_1_code
def yJxc12de_init_da8c8 : MethodName := ⟨RJxc12de, "<init>", "()V"⟩
def RJx35411 : String := "java/util/ArrayList$Itr"
def TJx35411 : u_T := fun k => match k with
  | 0 => ("java/util/ArrayList$Itr", "cursor", "I", false)
  | 1 => ("java/util/ArrayList$Itr", "lastRet", "I", false)
  | 2 => ("java/util/ArrayList$Itr", "expectedModCount", "I", false)
  | _ => ("java/util/ArrayList$Itr", "this$0", "Ljava/util/ArrayList;", true)
def tyJx35411 : Nat → FieldType := fun k => match k with
  | 0 => .int
  | 1 => .int
  | 2 => .int
  | _ => .object "java/util/ArrayList"
theorem nmJx35411 : ∀ a, a < 4 → ∀ b, b < 4 → a ≠ b → (TJx35411 a).2.1 ≠ (TJx35411 b).2.1 := by decide +kernel
theorem tyJx35411_ok : ∀ k, k < 4 → parseFieldDescriptor (TJx35411 k).2.2.1 = some (tyJx35411 k) := by decide +kernel
abbrev cJx35411_init_45d68 : ByteArray := prog_43_method_1_code
def yJx35411_init_45d68 : MethodName := ⟨RJx35411, "<init>", "(Ljava/util/ArrayList;)V"⟩
abbrev cJx35411_hasNext_aae02 : ByteArray := prog_43_method_2_code
def yJx35411_hasNext_aae02 : MethodName := ⟨RJx35411, "hasNext", "()Z"⟩
abbrev cJx35411_next_0502b : ByteArray := prog_43_method_3_code
def yJx35411_next_0502b : MethodName := ⟨RJx35411, "next", "()Ljava/lang/Object;"⟩
abbrev cJx35411_checkForComodification_da8c8 : ByteArray := prog_43_method_6_code
def yJx35411_checkForComodification_da8c8 : MethodName := ⟨RJx35411, "checkForComodification", "()V"⟩
def RJx4a65c : String := "java/util/ArrayList"
def TJx4a65c : u_T := fun k => match k with
  | 0 => ("java/util/AbstractList", "modCount", "I", false)
  | 1 => ("java/util/ArrayList", "elementData", "[Ljava/lang/Object;", false)
  | _ => ("java/util/ArrayList", "size", "I", false)
def tyJx4a65c : Nat → FieldType := fun k => match k with
  | 0 => .int
  | 1 => .array (.object "java/lang/Object")
  | _ => .int
theorem nmJx4a65c : ∀ a, a < 3 → ∀ b, b < 3 → a ≠ b → (TJx4a65c a).2.1 ≠ (TJx4a65c b).2.1 := by decide +kernel
theorem tyJx4a65c_ok : ∀ k, k < 3 → parseFieldDescriptor (TJx4a65c k).2.2.1 = some (tyJx4a65c k) := by decide +kernel
abbrev cJx4a65c_init_da8c8 : ByteArray := prog_42_method_2_code
def yJx4a65c_init_da8c8 : MethodName := ⟨RJx4a65c, "<init>", "()V"⟩
abbrev cJx4a65c_grow_92f84 : ByteArray := prog_42_method_6_code
def yJx4a65c_grow_92f84 : MethodName := ⟨RJx4a65c, "grow", "(I)[Ljava/lang/Object;"⟩
abbrev cJx4a65c_grow_d5877 : ByteArray := prog_42_method_7_code
def yJx4a65c_grow_d5877 : MethodName := ⟨RJx4a65c, "grow", "()[Ljava/lang/Object;"⟩
abbrev cJx4a65c_size_8abf5 : ByteArray := prog_42_method_8_code
def yJx4a65c_size_8abf5 : MethodName := ⟨RJx4a65c, "size", "()I"⟩
abbrev cJx4a65c_isEmpty_aae02 : ByteArray := prog_42_method_9_code
def yJx4a65c_isEmpty_aae02 : MethodName := ⟨RJx4a65c, "isEmpty", "()Z"⟩
abbrev cJx4a65c_elementData_915e3 : ByteArray := prog_42_method_18_code
def yJx4a65c_elementData_915e3 : MethodName := ⟨RJx4a65c, "elementData", "(I)Ljava/lang/Object;"⟩
abbrev cJx4a65c_get_915e3 : ByteArray := prog_42_method_20_code
def yJx4a65c_get_915e3 : MethodName := ⟨RJx4a65c, "get", "(I)Ljava/lang/Object;"⟩
abbrev cJx4a65c_add_72be8 : ByteArray := prog_42_method_24_code
def yJx4a65c_add_72be8 : MethodName := ⟨RJx4a65c, "add", "(Ljava/lang/Object;[Ljava/lang/Object;I)V"⟩
abbrev cJx4a65c_add_9ea2d : ByteArray := prog_42_method_25_code
def yJx4a65c_add_9ea2d : MethodName := ⟨RJx4a65c, "add", "(Ljava/lang/Object;)Z"⟩
abbrev cJx4a65c_remove_915e3 : ByteArray := prog_42_method_29_code
def yJx4a65c_remove_915e3 : MethodName := ⟨RJx4a65c, "remove", "(I)Ljava/lang/Object;"⟩
abbrev cJx4a65c_fastRemove_b59b0 : ByteArray := prog_42_method_39_code
def yJx4a65c_fastRemove_b59b0 : MethodName := ⟨RJx4a65c, "fastRemove", "([Ljava/lang/Object;I)V"⟩
abbrev cJx4a65c_iterator_32c93 : ByteArray := prog_42_method_55_code
def yJx4a65c_iterator_32c93 : MethodName := ⟨RJx4a65c, "iterator", "()Ljava/util/Iterator;"⟩
def RJ7 : String := "java/util/Arrays"
def TJ7 : u_T := fun k => match k with
  | _ => ("", "", "", false)
def tyJ7 : Nat → FieldType := fun k => match k with
  | _ => .int
theorem nmJ7 : ∀ a, a < 0 → ∀ b, b < 0 → a ≠ b → (TJ7 a).2.1 ≠ (TJ7 b).2.1 := by decide +kernel
theorem tyJ7_ok : ∀ k, k < 0 → parseFieldDescriptor (TJ7 k).2.2.1 = some (tyJ7 k) := by decide +kernel
abbrev cJ7_copyOf_1904c : ByteArray := prog_44_method_119_code
def yJ7_copyOf_1904c : MethodName := ⟨RJ7, "copyOf", "([Ljava/lang/Object;I)[Ljava/lang/Object;"⟩
abbrev cJ7_copyOf_6403c : ByteArray := prog_44_method_120_code
def yJ7_copyOf_6403c : MethodName := ⟨RJ7, "copyOf", "([Ljava/lang/Object;ILjava/lang/Class;)[Ljava/lang/Object;"⟩
def RJx5ef63 : String := "java/util/Collection"
def TJx5ef63 : u_T := fun k => match k with
  | _ => ("", "", "", false)
def tyJx5ef63 : Nat → FieldType := fun k => match k with
  | _ => .int
theorem nmJx5ef63 : ∀ a, a < 0 → ∀ b, b < 0 → a ≠ b → (TJx5ef63 a).2.1 ≠ (TJx5ef63 b).2.1 := by decide +kernel
theorem tyJx5ef63_ok : ∀ k, k < 0 → parseFieldDescriptor (TJx5ef63 k).2.2.1 = some (tyJx5ef63 k) := by decide +kernel
def RJx4d0d8 : String := "java/util/Iterator"
def TJx4d0d8 : u_T := fun k => match k with
  | _ => ("", "", "", false)
def tyJx4d0d8 : Nat → FieldType := fun k => match k with
  | _ => .int
theorem nmJx4d0d8 : ∀ a, a < 0 → ∀ b, b < 0 → a ≠ b → (TJx4d0d8 a).2.1 ≠ (TJx4d0d8 b).2.1 := by decide +kernel
theorem tyJx4d0d8_ok : ∀ k, k < 0 → parseFieldDescriptor (TJx4d0d8 k).2.2.1 = some (tyJx4d0d8 k) := by decide +kernel
def RJxbd725 : String := "java/util/List"
def TJxbd725 : u_T := fun k => match k with
  | _ => ("", "", "", false)
def tyJxbd725 : Nat → FieldType := fun k => match k with
  | _ => .int
theorem nmJxbd725 : ∀ a, a < 0 → ∀ b, b < 0 → a ≠ b → (TJxbd725 a).2.1 ≠ (TJxbd725 b).2.1 := by decide +kernel
theorem tyJxbd725_ok : ∀ k, k < 0 → parseFieldDescriptor (TJxbd725 k).2.2.1 = some (tyJxbd725 k) := by decide +kernel
def RJ15 : String := "java/util/Objects"
def TJ15 : u_T := fun k => match k with
  | _ => ("", "", "", false)
def tyJ15 : Nat → FieldType := fun k => match k with
  | _ => .int
theorem nmJ15 : ∀ a, a < 0 → ∀ b, b < 0 → a ≠ b → (TJ15 a).2.1 ≠ (TJ15 b).2.1 := by decide +kernel
theorem tyJ15_ok : ∀ k, k < 0 → parseFieldDescriptor (TJ15 k).2.2.1 = some (tyJ15 k) := by decide +kernel
abbrev cJ15_checkIndex_7cf53 : ByteArray := prog_49_method_17_code
def yJ15_checkIndex_7cf53 : MethodName := ⟨RJ15, "checkIndex", "(II)I"⟩
def RJxf0a74 : String := "java/util/RandomAccess"
def TJxf0a74 : u_T := fun k => match k with
  | _ => ("", "", "", false)
def tyJxf0a74 : Nat → FieldType := fun k => match k with
  | _ => .int
theorem nmJxf0a74 : ∀ a, a < 0 → ∀ b, b < 0 → a ≠ b → (TJxf0a74 a).2.1 ≠ (TJxf0a74 b).2.1 := by decide +kernel
theorem tyJxf0a74_ok : ∀ k, k < 0 → parseFieldDescriptor (TJxf0a74 k).2.2.1 = some (tyJxf0a74 k) := by decide +kernel
def RJxa66e6 : String := "java/util/SequencedCollection"
def TJxa66e6 : u_T := fun k => match k with
  | _ => ("", "", "", false)
def tyJxa66e6 : Nat → FieldType := fun k => match k with
  | _ => .int
theorem nmJxa66e6 : ∀ a, a < 0 → ∀ b, b < 0 → a ≠ b → (TJxa66e6 a).2.1 ≠ (TJxa66e6 b).2.1 := by decide +kernel
theorem tyJxa66e6_ok : ∀ k, k < 0 → parseFieldDescriptor (TJxa66e6 k).2.2.1 = some (tyJxa66e6 k) := by decide +kernel
def RJ8 : String := "jdk/internal/util/ArraysSupport"
def TJ8 : u_T := fun k => match k with
  | _ => ("", "", "", false)
def tyJ8 : Nat → FieldType := fun k => match k with
  | _ => .int
theorem nmJ8 : ∀ a, a < 0 → ∀ b, b < 0 → a ≠ b → (TJ8 a).2.1 ≠ (TJ8 b).2.1 := by decide +kernel
theorem tyJ8_ok : ∀ k, k < 0 → parseFieldDescriptor (TJ8 k).2.2.1 = some (tyJ8 k) := by decide +kernel
abbrev cJ8_newLength_cabcc : ByteArray := prog_52_method_27_code
def yJ8_newLength_cabcc : MethodName := ⟨RJ8, "newLength", "(III)I"⟩
abbrev cJ8_hugeLength_7cf53 : ByteArray := prog_52_method_28_code
def yJ8_hugeLength_7cf53 : MethodName := ⟨RJ8, "hugeLength", "(II)I"⟩
def RJ3 : String := "jdk/internal/util/Preconditions"
def TJ3 : u_T := fun k => match k with
  | _ => ("", "", "", false)
def tyJ3 : Nat → FieldType := fun k => match k with
  | _ => .int
theorem nmJ3 : ∀ a, a < 0 → ∀ b, b < 0 → a ≠ b → (TJ3 a).2.1 ≠ (TJ3 b).2.1 := by decide +kernel
theorem tyJ3_ok : ∀ k, k < 0 → parseFieldDescriptor (TJ3 k).2.2.1 = some (tyJ3 k) := by decide +kernel
abbrev cJ3_checkIndex_8e157 : ByteArray := prog_53_method_11_code
def yJ3_checkIndex_8e157 : MethodName := ⟨RJ3, "checkIndex", "(IILjava/util/function/BiFunction;)I"⟩
abbrev cJ3_checkFromToIndex_8c36e : ByteArray := prog_53_method_12_code
def yJ3_checkFromToIndex_8c36e : MethodName := ⟨RJ3, "checkFromToIndex", "(IIILjava/util/function/BiFunction;)I"⟩
def RL : String := "VeneerLoftLaw"
abbrev cL_log : ByteArray := method_3_code
def yL_log : MethodName := ⟨RL, "log", "(LVeneerLoft;CIIC[J)I"⟩
abbrev cL_slice : ByteArray := method_4_code
def yL_slice : MethodName := ⟨RL, "slice", "(LVeneerLoft;ICI[J)I"⟩
abbrev cL_leaves : ByteArray := method_5_code
def yL_leaves : MethodName := ⟨RL, "leaves", "(LVeneerLoft;I[J)I"⟩
abbrev cL_width : ByteArray := method_6_code
def yL_width : MethodName := ⟨RL, "width", "(LVeneerLoft;II[J)I"⟩
abbrev cL_area : ByteArray := method_7_code
def yL_area : MethodName := ⟨RL, "area", "(LVeneerLoft;II[J)I"⟩
abbrev cL_figure : ByteArray := method_8_code
def yL_figure : MethodName := ⟨RL, "figure", "(LVeneerLoft;II[J)I"⟩
abbrev cL_isUsed : ByteArray := method_9_code
def yL_isUsed : MethodName := ⟨RL, "isUsed", "(LVeneerLoft;II[J)I"⟩
abbrev cL_panel : ByteArray := method_10_code
def yL_panel : MethodName := ⟨RL, "panel", "(LVeneerLoft;IICI[J)I"⟩
abbrev cL_face : ByteArray := method_11_code
def yL_face : MethodName := ⟨RL, "face", "(LVeneerLoft;IIIIC[J)I"⟩
abbrev cL_back : ByteArray := method_12_code
def yL_back : MethodName := ⟨RL, "back", "(LVeneerLoft;IIII[J)I"⟩
abbrev cL_jump : ByteArray := method_13_code
def yL_jump : MethodName := ⟨RL, "jump", "(LVeneerLoft;I[J)I"⟩
abbrev cL_bestFirst : ByteArray := method_14_code
def yL_bestFirst : MethodName := ⟨RL, "bestFirst", "(LVeneerLoft;IIIC[J)I"⟩
abbrev cL_press : ByteArray := method_15_code
def yL_press : MethodName := ⟨RL, "press", "(LVeneerLoft;IIII[J)I"⟩
abbrev cL_slit : ByteArray := method_16_code
def yL_slit : MethodName := ⟨RL, "slit", "(LVeneerLoft;I[J)I"⟩
abbrev cL_air : ByteArray := method_17_code
def yL_air : MethodName := ⟨RL, "air", "(LVeneerLoft;I[J)I"⟩
abbrev cL_cup : ByteArray := method_18_code
def yL_cup : MethodName := ⟨RL, "cup", "(LVeneerLoft;II[J)I"⟩
abbrev cL_isFlat : ByteArray := method_19_code
def yL_isFlat : MethodName := ⟨RL, "isFlat", "(LVeneerLoft;I[J)I"⟩
abbrev cL_cupMonth : ByteArray := method_20_code
def yL_cupMonth : MethodName := ⟨RL, "cupMonth", "(LVeneerLoft;I[J)I"⟩
abbrev cL_scrape : ByteArray := method_21_code
def yL_scrape : MethodName := ⟨RL, "scrape", "(LVeneerLoft;II[J)I"⟩
abbrev cL_isThrough : ByteArray := method_22_code
def yL_isThrough : MethodName := ⟨RL, "isThrough", "(LVeneerLoft;I[J)I"⟩
abbrev cL_pad : ByteArray := method_23_code
def yL_pad : MethodName := ⟨RL, "pad", "(LVeneerLoft;II[J)I"⟩
abbrev cL_ghosts : ByteArray := method_24_code
def yL_ghosts : MethodName := ⟨RL, "ghosts", "(LVeneerLoft;I[J)I"⟩
abbrev cL_picture : ByteArray := method_25_code
def yL_picture : MethodName := ⟨RL, "picture", "(LVeneerLoft;[J)I"⟩
abbrev cL_draw : ByteArray := method_26_code
def yL_draw : MethodName := ⟨RL, "draw", "(LVeneerLoft;IIIIC[J)I"⟩
abbrev cL_fieldAt : ByteArray := method_27_code
def yL_fieldAt : MethodName := ⟨RL, "fieldAt", "(LVeneerLoft;III[J)I"⟩
abbrev cL_pieces : ByteArray := method_28_code
def yL_pieces : MethodName := ⟨RL, "pieces", "(LVeneerLoft;I[J)I"⟩
abbrev cL_islands : ByteArray := method_29_code
def yL_islands : MethodName := ⟨RL, "islands", "(LVeneerLoft;I[J)I"⟩
abbrev cL_saw : ByteArray := method_30_code
def yL_saw : MethodName := ⟨RL, "saw", "(LVeneerLoft;IIII[J)I"⟩
abbrev cL_leafAt : ByteArray := method_31_code
def yL_leafAt : MethodName := ⟨RL, "leafAt", "(LVeneerLoft;IIII[J)I"⟩
abbrev cL_contrast : ByteArray := method_32_code
def yL_contrast : MethodName := ⟨RL, "contrast", "(LVeneerLoft;II[J)I"⟩
abbrev cL_sand : ByteArray := method_33_code
def yL_sand : MethodName := ⟨RL, "sand", "(LVeneerLoft;ICII[J)I"⟩
abbrev cL_burnt : ByteArray := method_34_code
def yL_burnt : MethodName := ⟨RL, "burnt", "(LVeneerLoft;I[J)I"⟩
abbrev cL_gap : ByteArray := method_35_code
def yL_gap : MethodName := ⟨RL, "gap", "(LVeneerLoft;III[J)I"⟩
abbrev cL_takeOffcut : ByteArray := method_36_code
def yL_takeOffcut : MethodName := ⟨RL, "takeOffcut", "(LVeneerLoft;II[J)I"⟩
abbrev cL_account : ByteArray := method_37_code
def yL_account : MethodName := ⟨RL, "account", "(LVeneerLoft;C[J)I"⟩
abbrev cL_price : ByteArray := method_38_code
def yL_price : MethodName := ⟨RL, "price", "(LVeneerLoft;I[J)I"⟩
abbrev cL_usedShare : ByteArray := method_39_code
def yL_usedShare : MethodName := ⟨RL, "usedShare", "(LVeneerLoft;[D)I"⟩
abbrev cL_meanFigure : ByteArray := method_40_code
def yL_meanFigure : MethodName := ⟨RL, "meanFigure", "(LVeneerLoft;[D)I"⟩
abbrev cL_law : ByteArray := code
def yL_law : MethodName := ⟨RL, "law", "([I)Z"⟩
end
section
theorem dX0_init_0 : decode cX0_init 0 = .ok (.aload_n 0, 1) := by decide +kernel
theorem dX0_init_1 : decode cX0_init 1 = .ok (.invokespecial 3, 3) := by decide +kernel
theorem dX0_init_4 : decode cX0_init 4 = .ok (.aload_n 0, 1) := by decide +kernel
theorem dX0_init_5 : decode cX0_init 5 = .ok (.bipush 24, 2) := by decide +kernel
theorem dX0_init_7 : decode cX0_init 7 = .ok (.newarray .int, 2) := by decide +kernel
theorem dX0_init_9 : decode cX0_init 9 = .ok (.putfield 9, 3) := by decide +kernel
theorem dX0_init_12 : decode cX0_init 12 = .ok (.aload_n 0, 1) := by decide +kernel
theorem dX0_init_13 : decode cX0_init 13 = .ok (.bipush 24, 2) := by decide +kernel
theorem dX0_init_15 : decode cX0_init 15 = .ok (.newarray .int, 2) := by decide +kernel
theorem dX0_init_17 : decode cX0_init 17 = .ok (.putfield 15, 3) := by decide +kernel
theorem dX0_init_20 : decode cX0_init 20 = .ok (.aload_n 0, 1) := by decide +kernel
theorem dX0_init_21 : decode cX0_init 21 = .ok (.bipush 24, 2) := by decide +kernel
theorem dX0_init_23 : decode cX0_init 23 = .ok (.newarray .boolean, 2) := by decide +kernel
theorem dX0_init_25 : decode cX0_init 25 = .ok (.putfield 18, 3) := by decide +kernel
theorem dX0_init_28 : decode cX0_init 28 = .ok (.aload_n 0, 1) := by decide +kernel
theorem dX0_init_29 : decode cX0_init 29 = .ok (.iload_n 3, 1) := by decide +kernel
theorem dX0_init_30 : decode cX0_init 30 = .ok (.putfield 22, 3) := by decide +kernel
theorem dX0_init_33 : decode cX0_init 33 = .ok (.aload_n 0, 1) := by decide +kernel
theorem dX0_init_34 : decode cX0_init 34 = .ok (.aload_n 1, 1) := by decide +kernel
theorem dX0_init_35 : decode cX0_init 35 = .ok (.getfield 26, 3) := by decide +kernel
theorem dX0_init_38 : decode cX0_init 38 = .ok (.putfield 31, 3) := by decide +kernel
theorem dX0_init_41 : decode cX0_init 41 = .ok (.aload_n 0, 1) := by decide +kernel
theorem dX0_init_42 : decode cX0_init 42 = .ok (.aload_n 1, 1) := by decide +kernel
theorem dX0_init_43 : decode cX0_init 43 = .ok (.invokevirtual 32, 3) := by decide +kernel
theorem dX0_init_46 : decode cX0_init 46 = .ok (.putfield 36, 3) := by decide +kernel
theorem dX0_init_49 : decode cX0_init 49 = .ok (.aload_n 0, 1) := by decide +kernel
theorem dX0_init_50 : decode cX0_init 50 = .ok (.aload_n 1, 1) := by decide +kernel
theorem dX0_init_51 : decode cX0_init 51 = .ok (.invokevirtual 38, 3) := by decide +kernel
theorem dX0_init_54 : decode cX0_init 54 = .ok (.iload_n 2, 1) := by decide +kernel
theorem dX0_init_55 : decode cX0_init 55 = .ok (.iload_n 3, 1) := by decide +kernel
theorem dX0_init_56 : decode cX0_init 56 = .ok (.invokestatic 41, 3) := by decide +kernel
theorem dX0_init_59 : decode cX0_init 59 = .ok (.putfield 45, 3) := by decide +kernel
theorem dX0_init_62 : decode cX0_init 62 = .ok (.iconst 0, 1) := by decide +kernel
theorem dX0_init_63 : decode cX0_init 63 = .ok (.istore 4, 2) := by decide +kernel
theorem dX0_init_65 : decode cX0_init 65 = .ok (.iload 4, 2) := by decide +kernel
theorem dX0_init_67 : decode cX0_init 67 = .ok (.bipush 24, 2) := by decide +kernel
theorem dX0_init_69 : decode cX0_init 69 = .ok (.if_icmp .ge 56, 3) := by decide +kernel
theorem dX0_init_72 : decode cX0_init 72 = .ok (.aload_n 0, 1) := by decide +kernel
theorem dX0_init_73 : decode cX0_init 73 = .ok (.getfield 9, 3) := by decide +kernel
theorem dX0_init_76 : decode cX0_init 76 = .ok (.iload 4, 2) := by decide +kernel
theorem dX0_init_78 : decode cX0_init 78 = .ok (.aload_n 1, 1) := by decide +kernel
theorem dX0_init_79 : decode cX0_init 79 = .ok (.iload_n 2, 1) := by decide +kernel
theorem dX0_init_80 : decode cX0_init 80 = .ok (.iload 4, 2) := by decide +kernel
theorem dX0_init_82 : decode cX0_init 82 = .ok (.iload_n 3, 1) := by decide +kernel
theorem dX0_init_83 : decode cX0_init 83 = .ok (.imul, 1) := by decide +kernel
theorem dX0_init_84 : decode cX0_init 84 = .ok (.bipush 10, 2) := by decide +kernel
theorem dX0_init_86 : decode cX0_init 86 = .ok (.idiv, 1) := by decide +kernel
theorem dX0_init_87 : decode cX0_init 87 = .ok (.invokestatic 48, 3) := by decide +kernel
theorem dX0_init_90 : decode cX0_init 90 = .ok (.iastore, 1) := by decide +kernel
theorem dX0_init_91 : decode cX0_init 91 = .ok (.aload_n 0, 1) := by decide +kernel
theorem dX0_init_92 : decode cX0_init 92 = .ok (.getfield 15, 3) := by decide +kernel
theorem dX0_init_95 : decode cX0_init 95 = .ok (.iload 4, 2) := by decide +kernel
theorem dX0_init_97 : decode cX0_init 97 = .ok (.aload_n 1, 1) := by decide +kernel
theorem dX0_init_98 : decode cX0_init 98 = .ok (.getfield 52, 3) := by decide +kernel
theorem dX0_init_101 : decode cX0_init 101 = .ok (.invokestatic 56, 3) := by decide +kernel
theorem dX0_init_104 : decode cX0_init 104 = .ok (.aload_n 1, 1) := by decide +kernel
theorem dX0_init_105 : decode cX0_init 105 = .ok (.iload_n 2, 1) := by decide +kernel
theorem dX0_init_106 : decode cX0_init 106 = .ok (.iload 4, 2) := by decide +kernel
theorem dX0_init_108 : decode cX0_init 108 = .ok (.invokestatic 60, 3) := by decide +kernel
theorem dX0_init_111 : decode cX0_init 111 = .ok (.iadd, 1) := by decide +kernel
theorem dX0_init_112 : decode cX0_init 112 = .ok (.iconst 0, 1) := by decide +kernel
theorem dX0_init_113 : decode cX0_init 113 = .ok (.bipush 99, 2) := by decide +kernel
theorem dX0_init_115 : decode cX0_init 115 = .ok (.invokestatic 63, 3) := by decide +kernel
theorem dX0_init_118 : decode cX0_init 118 = .ok (.iastore, 1) := by decide +kernel
theorem dX0_init_119 : decode cX0_init 119 = .ok (.iinc 4 1, 3) := by decide +kernel
theorem dX0_init_122 : decode cX0_init 122 = .ok (.goto (-57), 3) := by decide +kernel
theorem dX0_init_125 : decode cX0_init 125 = .ok (.return_, 1) := by decide +kernel
theorem dX0_countLeaves_0 : decode cX0_countLeaves 0 = .ok (.iload_n 2, 1) := by decide +kernel
theorem dX0_countLeaves_1 : decode cX0_countLeaves 1 = .ok (.ifCond .gt 5, 3) := by decide +kernel
theorem dX0_countLeaves_4 : decode cX0_countLeaves 4 = .ok (.iconst 0, 1) := by decide +kernel
theorem dX0_countLeaves_5 : decode cX0_countLeaves 5 = .ok (.ireturn, 1) := by decide +kernel
theorem dX0_countLeaves_6 : decode cX0_countLeaves 6 = .ok (.iload_n 1, 1) := by decide +kernel
theorem dX0_countLeaves_7 : decode cX0_countLeaves 7 = .ok (.bipush 102, 2) := by decide +kernel
theorem dX0_countLeaves_9 : decode cX0_countLeaves 9 = .ok (.if_icmp .ne 16, 3) := by decide +kernel
theorem dX0_countLeaves_12 : decode cX0_countLeaves 12 = .ok (.bipush 10, 2) := by decide +kernel
theorem dX0_countLeaves_14 : decode cX0_countLeaves 14 = .ok (.iload_n 0, 1) := by decide +kernel
theorem dX0_countLeaves_15 : decode cX0_countLeaves 15 = .ok (.iconst 2, 1) := by decide +kernel
theorem dX0_countLeaves_16 : decode cX0_countLeaves 16 = .ok (.idiv, 1) := by decide +kernel
theorem dX0_countLeaves_17 : decode cX0_countLeaves 17 = .ok (.imul, 1) := by decide +kernel
theorem dX0_countLeaves_18 : decode cX0_countLeaves 18 = .ok (.iload_n 2, 1) := by decide +kernel
theorem dX0_countLeaves_19 : decode cX0_countLeaves 19 = .ok (.idiv, 1) := by decide +kernel
theorem dX0_countLeaves_20 : decode cX0_countLeaves 20 = .ok (.iconst 1, 1) := by decide +kernel
theorem dX0_countLeaves_21 : decode cX0_countLeaves 21 = .ok (.iadd, 1) := by decide +kernel
theorem dX0_countLeaves_22 : decode cX0_countLeaves 22 = .ok (.goto 9, 3) := by decide +kernel
theorem dX0_countLeaves_25 : decode cX0_countLeaves 25 = .ok (.bipush 10, 2) := by decide +kernel
theorem dX0_countLeaves_27 : decode cX0_countLeaves 27 = .ok (.iload_n 0, 1) := by decide +kernel
theorem dX0_countLeaves_28 : decode cX0_countLeaves 28 = .ok (.imul, 1) := by decide +kernel
theorem dX0_countLeaves_29 : decode cX0_countLeaves 29 = .ok (.iload_n 2, 1) := by decide +kernel
theorem dX0_countLeaves_30 : decode cX0_countLeaves 30 = .ok (.idiv, 1) := by decide +kernel
theorem dX0_countLeaves_31 : decode cX0_countLeaves 31 = .ok (.istore_n 3, 1) := by decide +kernel
theorem dX0_countLeaves_32 : decode cX0_countLeaves 32 = .ok (.iload_n 3, 1) := by decide +kernel
theorem dX0_countLeaves_33 : decode cX0_countLeaves 33 = .ok (.iconst 0, 1) := by decide +kernel
theorem dX0_countLeaves_34 : decode cX0_countLeaves 34 = .ok (.bipush 24, 2) := by decide +kernel
theorem dX0_countLeaves_36 : decode cX0_countLeaves 36 = .ok (.invokestatic 63, 3) := by decide +kernel
theorem dX0_countLeaves_39 : decode cX0_countLeaves 39 = .ok (.ireturn, 1) := by decide +kernel
theorem dX0_cutWidth_0 : decode cX0_cutWidth 0 = .ok (.aload_n 0, 1) := by decide +kernel
theorem dX0_cutWidth_1 : decode cX0_cutWidth 1 = .ok (.invokevirtual 38, 3) := by decide +kernel
theorem dX0_cutWidth_4 : decode cX0_cutWidth 4 = .ok (.istore_n 3, 1) := by decide +kernel
theorem dX0_cutWidth_5 : decode cX0_cutWidth 5 = .ok (.iload_n 1, 1) := by decide +kernel
theorem dX0_cutWidth_6 : decode cX0_cutWidth 6 = .ok (.bipush 102, 2) := by decide +kernel
theorem dX0_cutWidth_8 : decode cX0_cutWidth 8 = .ok (.if_icmp .ne 25, 3) := by decide +kernel
theorem dX0_cutWidth_11 : decode cX0_cutWidth 11 = .ok (.iload_n 3, 1) := by decide +kernel
theorem dX0_cutWidth_12 : decode cX0_cutWidth 12 = .ok (.iconst 2, 1) := by decide +kernel
theorem dX0_cutWidth_13 : decode cX0_cutWidth 13 = .ok (.idiv, 1) := by decide +kernel
theorem dX0_cutWidth_14 : decode cX0_cutWidth 14 = .ok (.iload_n 2, 1) := by decide +kernel
theorem dX0_cutWidth_15 : decode cX0_cutWidth 15 = .ok (.isub, 1) := by decide +kernel
theorem dX0_cutWidth_16 : decode cX0_cutWidth 16 = .ok (.istore 4, 2) := by decide +kernel
theorem dX0_cutWidth_18 : decode cX0_cutWidth 18 = .ok (.iconst 2, 1) := by decide +kernel
theorem dX0_cutWidth_19 : decode cX0_cutWidth 19 = .ok (.iload_n 3, 1) := by decide +kernel
theorem dX0_cutWidth_20 : decode cX0_cutWidth 20 = .ok (.iload_n 3, 1) := by decide +kernel
theorem dX0_cutWidth_21 : decode cX0_cutWidth 21 = .ok (.imul, 1) := by decide +kernel
theorem dX0_cutWidth_22 : decode cX0_cutWidth 22 = .ok (.iload 4, 2) := by decide +kernel
theorem dX0_cutWidth_24 : decode cX0_cutWidth 24 = .ok (.iload 4, 2) := by decide +kernel
theorem dX0_cutWidth_26 : decode cX0_cutWidth 26 = .ok (.imul, 1) := by decide +kernel
theorem dX0_cutWidth_27 : decode cX0_cutWidth 27 = .ok (.isub, 1) := by decide +kernel
theorem dX0_cutWidth_28 : decode cX0_cutWidth 28 = .ok (.invokestatic 67, 3) := by decide +kernel
theorem dX0_cutWidth_31 : decode cX0_cutWidth 31 = .ok (.imul, 1) := by decide +kernel
theorem dX0_cutWidth_32 : decode cX0_cutWidth 32 = .ok (.ireturn, 1) := by decide +kernel
theorem dX0_cutWidth_33 : decode cX0_cutWidth 33 = .ok (.iload_n 1, 1) := by decide +kernel
theorem dX0_cutWidth_34 : decode cX0_cutWidth 34 = .ok (.bipush 115, 2) := by decide +kernel
theorem dX0_cutWidth_36 : decode cX0_cutWidth 36 = .ok (.if_icmp .ne 15, 3) := by decide +kernel
theorem dX0_cutWidth_39 : decode cX0_cutWidth 39 = .ok (.iconst 3, 1) := by decide +kernel
theorem dX0_cutWidth_40 : decode cX0_cutWidth 40 = .ok (.aload_n 0, 1) := by decide +kernel
theorem dX0_cutWidth_41 : decode cX0_cutWidth 41 = .ok (.getfield 71, 3) := by decide +kernel
theorem dX0_cutWidth_44 : decode cX0_cutWidth 44 = .ok (.imul, 1) := by decide +kernel
theorem dX0_cutWidth_45 : decode cX0_cutWidth 45 = .ok (.bipush 6, 2) := by decide +kernel
theorem dX0_cutWidth_47 : decode cX0_cutWidth 47 = .ok (.iload_n 2, 1) := by decide +kernel
theorem dX0_cutWidth_48 : decode cX0_cutWidth 48 = .ok (.imul, 1) := by decide +kernel
theorem dX0_cutWidth_49 : decode cX0_cutWidth 49 = .ok (.isub, 1) := by decide +kernel
theorem dX0_cutWidth_50 : decode cX0_cutWidth 50 = .ok (.ireturn, 1) := by decide +kernel
theorem dX0_cutWidth_51 : decode cX0_cutWidth 51 = .ok (.iload_n 1, 1) := by decide +kernel
theorem dX0_cutWidth_52 : decode cX0_cutWidth 52 = .ok (.bipush 113, 2) := by decide +kernel
theorem dX0_cutWidth_54 : decode cX0_cutWidth 54 = .ok (.if_icmp .ne 10, 3) := by decide +kernel
theorem dX0_cutWidth_57 : decode cX0_cutWidth 57 = .ok (.iload_n 3, 1) := by decide +kernel
theorem dX0_cutWidth_58 : decode cX0_cutWidth 58 = .ok (.bipush 20, 2) := by decide +kernel
theorem dX0_cutWidth_60 : decode cX0_cutWidth 60 = .ok (.isub, 1) := by decide +kernel
theorem dX0_cutWidth_61 : decode cX0_cutWidth 61 = .ok (.goto 11, 3) := by decide +kernel
theorem dX0_cutWidth_64 : decode cX0_cutWidth 64 = .ok (.iload_n 3, 1) := by decide +kernel
theorem dX0_cutWidth_65 : decode cX0_cutWidth 65 = .ok (.bipush 20, 2) := by decide +kernel
theorem dX0_cutWidth_67 : decode cX0_cutWidth 67 = .ok (.isub, 1) := by decide +kernel
theorem dX0_cutWidth_68 : decode cX0_cutWidth 68 = .ok (.iconst 4, 1) := by decide +kernel
theorem dX0_cutWidth_69 : decode cX0_cutWidth 69 = .ok (.imul, 1) := by decide +kernel
theorem dX0_cutWidth_70 : decode cX0_cutWidth 70 = .ok (.iconst 5, 1) := by decide +kernel
theorem dX0_cutWidth_71 : decode cX0_cutWidth 71 = .ok (.idiv, 1) := by decide +kernel
theorem dX0_cutWidth_72 : decode cX0_cutWidth 72 = .ok (.ireturn, 1) := by decide +kernel
theorem dX0_rootOf_0 : decode cX0_rootOf 0 = .ok (.iconst 0, 1) := by decide +kernel
theorem dX0_rootOf_1 : decode cX0_rootOf 1 = .ok (.istore_n 1, 1) := by decide +kernel
theorem dX0_rootOf_2 : decode cX0_rootOf 2 = .ok (.sipush 512, 3) := by decide +kernel
theorem dX0_rootOf_5 : decode cX0_rootOf 5 = .ok (.istore_n 2, 1) := by decide +kernel
theorem dX0_rootOf_6 : decode cX0_rootOf 6 = .ok (.iload_n 2, 1) := by decide +kernel
theorem dX0_rootOf_7 : decode cX0_rootOf 7 = .ok (.ifCond .le 25, 3) := by decide +kernel
theorem dX0_rootOf_10 : decode cX0_rootOf 10 = .ok (.iload_n 1, 1) := by decide +kernel
theorem dX0_rootOf_11 : decode cX0_rootOf 11 = .ok (.iload_n 2, 1) := by decide +kernel
theorem dX0_rootOf_12 : decode cX0_rootOf 12 = .ok (.iadd, 1) := by decide +kernel
theorem dX0_rootOf_13 : decode cX0_rootOf 13 = .ok (.iload_n 1, 1) := by decide +kernel
theorem dX0_rootOf_14 : decode cX0_rootOf 14 = .ok (.iload_n 2, 1) := by decide +kernel
theorem dX0_rootOf_15 : decode cX0_rootOf 15 = .ok (.iadd, 1) := by decide +kernel
theorem dX0_rootOf_16 : decode cX0_rootOf 16 = .ok (.imul, 1) := by decide +kernel
theorem dX0_rootOf_17 : decode cX0_rootOf 17 = .ok (.iload_n 0, 1) := by decide +kernel
theorem dX0_rootOf_18 : decode cX0_rootOf 18 = .ok (.if_icmp .gt 7, 3) := by decide +kernel
theorem dX0_rootOf_21 : decode cX0_rootOf 21 = .ok (.iload_n 1, 1) := by decide +kernel
theorem dX0_rootOf_22 : decode cX0_rootOf 22 = .ok (.iload_n 2, 1) := by decide +kernel
theorem dX0_rootOf_23 : decode cX0_rootOf 23 = .ok (.iadd, 1) := by decide +kernel
theorem dX0_rootOf_24 : decode cX0_rootOf 24 = .ok (.istore_n 1, 1) := by decide +kernel
theorem dX0_rootOf_25 : decode cX0_rootOf 25 = .ok (.iload_n 2, 1) := by decide +kernel
theorem dX0_rootOf_26 : decode cX0_rootOf 26 = .ok (.iconst 2, 1) := by decide +kernel
theorem dX0_rootOf_27 : decode cX0_rootOf 27 = .ok (.idiv, 1) := by decide +kernel
theorem dX0_rootOf_28 : decode cX0_rootOf 28 = .ok (.istore_n 2, 1) := by decide +kernel
theorem dX0_rootOf_29 : decode cX0_rootOf 29 = .ok (.goto (-23), 3) := by decide +kernel
theorem dX0_rootOf_32 : decode cX0_rootOf 32 = .ok (.iload_n 1, 1) := by decide +kernel
theorem dX0_rootOf_33 : decode cX0_rootOf 33 = .ok (.ireturn, 1) := by decide +kernel
theorem dX0_formFigure_0 : decode cX0_formFigure 0 = .ok (.iload_n 0, 1) := by decide +kernel
theorem dX0_formFigure_1 : decode cX0_formFigure 1 = .ok (.bipush 112, 2) := by decide +kernel
theorem dX0_formFigure_3 : decode cX0_formFigure 3 = .ok (.if_icmp .ne 8, 3) := by decide +kernel
theorem dX0_formFigure_6 : decode cX0_formFigure 6 = .ok (.bipush 10, 2) := by decide +kernel
theorem dX0_formFigure_8 : decode cX0_formFigure 8 = .ok (.goto 16, 3) := by decide +kernel
theorem dX0_formFigure_11 : decode cX0_formFigure 11 = .ok (.iload_n 0, 1) := by decide +kernel
theorem dX0_formFigure_12 : decode cX0_formFigure 12 = .ok (.bipush 99, 2) := by decide +kernel
theorem dX0_formFigure_14 : decode cX0_formFigure 14 = .ok (.if_icmp .ne 8, 3) := by decide +kernel
theorem dX0_formFigure_17 : decode cX0_formFigure 17 = .ok (.bipush 40, 2) := by decide +kernel
theorem dX0_formFigure_19 : decode cX0_formFigure 19 = .ok (.goto 5, 3) := by decide +kernel
theorem dX0_formFigure_22 : decode cX0_formFigure 22 = .ok (.bipush 60, 2) := by decide +kernel
theorem dX0_formFigure_24 : decode cX0_formFigure 24 = .ok (.ireturn, 1) := by decide +kernel
theorem dX0_wayFigure_0 : decode cX0_wayFigure 0 = .ok (.iload_n 1, 1) := by decide +kernel
theorem dX0_wayFigure_1 : decode cX0_wayFigure 1 = .ok (.bipush 102, 2) := by decide +kernel
theorem dX0_wayFigure_3 : decode cX0_wayFigure 3 = .ok (.if_icmp .ne 11, 3) := by decide +kernel
theorem dX0_wayFigure_6 : decode cX0_wayFigure 6 = .ok (.bipush 15, 2) := by decide +kernel
theorem dX0_wayFigure_8 : decode cX0_wayFigure 8 = .ok (.iload_n 2, 1) := by decide +kernel
theorem dX0_wayFigure_9 : decode cX0_wayFigure 9 = .ok (.bipush 8, 2) := by decide +kernel
theorem dX0_wayFigure_11 : decode cX0_wayFigure 11 = .ok (.irem, 1) := by decide +kernel
theorem dX0_wayFigure_12 : decode cX0_wayFigure 12 = .ok (.isub, 1) := by decide +kernel
theorem dX0_wayFigure_13 : decode cX0_wayFigure 13 = .ok (.ireturn, 1) := by decide +kernel
theorem dX0_wayFigure_14 : decode cX0_wayFigure 14 = .ok (.iload_n 1, 1) := by decide +kernel
theorem dX0_wayFigure_15 : decode cX0_wayFigure 15 = .ok (.bipush 113, 2) := by decide +kernel
theorem dX0_wayFigure_17 : decode cX0_wayFigure 17 = .ok (.if_icmp .ne 30, 3) := by decide +kernel
theorem dX0_wayFigure_20 : decode cX0_wayFigure 20 = .ok (.aload_n 0, 1) := by decide +kernel
theorem dX0_wayFigure_21 : decode cX0_wayFigure 21 = .ok (.getfield 74, 3) := by decide +kernel
theorem dX0_wayFigure_24 : decode cX0_wayFigure 24 = .ok (.bipush 111, 2) := by decide +kernel
theorem dX0_wayFigure_26 : decode cX0_wayFigure 26 = .ok (.if_icmp .ne 8, 3) := by decide +kernel
theorem dX0_wayFigure_29 : decode cX0_wayFigure 29 = .ok (.bipush 30, 2) := by decide +kernel
theorem dX0_wayFigure_31 : decode cX0_wayFigure 31 = .ok (.goto 5, 3) := by decide +kernel
theorem dX0_wayFigure_34 : decode cX0_wayFigure 34 = .ok (.bipush 10, 2) := by decide +kernel
theorem dX0_wayFigure_36 : decode cX0_wayFigure 36 = .ok (.iload_n 2, 1) := by decide +kernel
theorem dX0_wayFigure_37 : decode cX0_wayFigure 37 = .ok (.bipush 12, 2) := by decide +kernel
theorem dX0_wayFigure_39 : decode cX0_wayFigure 39 = .ok (.isub, 1) := by decide +kernel
theorem dX0_wayFigure_40 : decode cX0_wayFigure 40 = .ok (.invokestatic 77, 3) := by decide +kernel
theorem dX0_wayFigure_43 : decode cX0_wayFigure 43 = .ok (.iconst 2, 1) := by decide +kernel
theorem dX0_wayFigure_44 : decode cX0_wayFigure 44 = .ok (.idiv, 1) := by decide +kernel
theorem dX0_wayFigure_45 : decode cX0_wayFigure 45 = .ok (.isub, 1) := by decide +kernel
theorem dX0_wayFigure_46 : decode cX0_wayFigure 46 = .ok (.ireturn, 1) := by decide +kernel
theorem dX0_wayFigure_47 : decode cX0_wayFigure 47 = .ok (.iload_n 1, 1) := by decide +kernel
theorem dX0_wayFigure_48 : decode cX0_wayFigure 48 = .ok (.bipush 114, 2) := by decide +kernel
theorem dX0_wayFigure_50 : decode cX0_wayFigure 50 = .ok (.if_icmp .ne 5, 3) := by decide +kernel
theorem dX0_wayFigure_53 : decode cX0_wayFigure 53 = .ok (.iconst 5, 1) := by decide +kernel
theorem dX0_wayFigure_54 : decode cX0_wayFigure 54 = .ok (.ireturn, 1) := by decide +kernel
theorem dX0_wayFigure_55 : decode cX0_wayFigure 55 = .ok (.bipush 20, 2) := by decide +kernel
theorem dX0_wayFigure_57 : decode cX0_wayFigure 57 = .ok (.aload_n 0, 1) := by decide +kernel
theorem dX0_wayFigure_58 : decode cX0_wayFigure 58 = .ok (.getfield 52, 3) := by decide +kernel
theorem dX0_wayFigure_61 : decode cX0_wayFigure 61 = .ok (.bipush 98, 2) := by decide +kernel
theorem dX0_wayFigure_63 : decode cX0_wayFigure 63 = .ok (.if_icmp .ne 8, 3) := by decide +kernel
theorem dX0_wayFigure_66 : decode cX0_wayFigure 66 = .ok (.bipush 30, 2) := by decide +kernel
theorem dX0_wayFigure_68 : decode cX0_wayFigure 68 = .ok (.goto 4, 3) := by decide +kernel
theorem dX0_wayFigure_71 : decode cX0_wayFigure 71 = .ok (.iconst 0, 1) := by decide +kernel
theorem dX0_wayFigure_72 : decode cX0_wayFigure 72 = .ok (.iadd, 1) := by decide +kernel
theorem dX0_wayFigure_73 : decode cX0_wayFigure 73 = .ok (.iload_n 2, 1) := by decide +kernel
theorem dX0_wayFigure_74 : decode cX0_wayFigure 74 = .ok (.iconst 2, 1) := by decide +kernel
theorem dX0_wayFigure_75 : decode cX0_wayFigure 75 = .ok (.idiv, 1) := by decide +kernel
theorem dX0_wayFigure_76 : decode cX0_wayFigure 76 = .ok (.isub, 1) := by decide +kernel
theorem dX0_wayFigure_77 : decode cX0_wayFigure 77 = .ok (.ireturn, 1) := by decide +kernel
theorem dX0_hasLeaf_0 : decode cX0_hasLeaf 0 = .ok (.iload_n 1, 1) := by decide +kernel
theorem dX0_hasLeaf_1 : decode cX0_hasLeaf 1 = .ok (.ifCond .lt 21, 3) := by decide +kernel
theorem dX0_hasLeaf_4 : decode cX0_hasLeaf 4 = .ok (.iload_n 1, 1) := by decide +kernel
theorem dX0_hasLeaf_5 : decode cX0_hasLeaf 5 = .ok (.aload_n 0, 1) := by decide +kernel
theorem dX0_hasLeaf_6 : decode cX0_hasLeaf 6 = .ok (.getfield 45, 3) := by decide +kernel
theorem dX0_hasLeaf_9 : decode cX0_hasLeaf 9 = .ok (.if_icmp .ge 13, 3) := by decide +kernel
theorem dX0_hasLeaf_12 : decode cX0_hasLeaf 12 = .ok (.iload_n 1, 1) := by decide +kernel
theorem dX0_hasLeaf_13 : decode cX0_hasLeaf 13 = .ok (.bipush 24, 2) := by decide +kernel
theorem dX0_hasLeaf_15 : decode cX0_hasLeaf 15 = .ok (.if_icmp .ge 7, 3) := by decide +kernel
theorem dX0_hasLeaf_18 : decode cX0_hasLeaf 18 = .ok (.iconst 1, 1) := by decide +kernel
theorem dX0_hasLeaf_19 : decode cX0_hasLeaf 19 = .ok (.goto 4, 3) := by decide +kernel
theorem dX0_hasLeaf_22 : decode cX0_hasLeaf 22 = .ok (.iconst 0, 1) := by decide +kernel
theorem dX0_hasLeaf_23 : decode cX0_hasLeaf 23 = .ok (.ireturn, 1) := by decide +kernel
theorem dX0_widthOf_0 : decode cX0_widthOf 0 = .ok (.aload_n 0, 1) := by decide +kernel
theorem dX0_widthOf_1 : decode cX0_widthOf 1 = .ok (.iload_n 1, 1) := by decide +kernel
theorem dX0_widthOf_2 : decode cX0_widthOf 2 = .ok (.invokevirtual 82, 3) := by decide +kernel
theorem dX0_widthOf_5 : decode cX0_widthOf 5 = .ok (.ifCond .eq 12, 3) := by decide +kernel
theorem dX0_widthOf_8 : decode cX0_widthOf 8 = .ok (.aload_n 0, 1) := by decide +kernel
theorem dX0_widthOf_9 : decode cX0_widthOf 9 = .ok (.getfield 9, 3) := by decide +kernel
theorem dX0_widthOf_12 : decode cX0_widthOf 12 = .ok (.iload_n 1, 1) := by decide +kernel
theorem dX0_widthOf_13 : decode cX0_widthOf 13 = .ok (.iaload, 1) := by decide +kernel
theorem dX0_widthOf_14 : decode cX0_widthOf 14 = .ok (.goto 4, 3) := by decide +kernel
theorem dX0_widthOf_17 : decode cX0_widthOf 17 = .ok (.iconst 0, 1) := by decide +kernel
theorem dX0_widthOf_18 : decode cX0_widthOf 18 = .ok (.ireturn, 1) := by decide +kernel
theorem dX0_areaOf_0 : decode cX0_areaOf 0 = .ok (.aload_n 0, 1) := by decide +kernel
theorem dX0_areaOf_1 : decode cX0_areaOf 1 = .ok (.iload_n 1, 1) := by decide +kernel
theorem dX0_areaOf_2 : decode cX0_areaOf 2 = .ok (.invokevirtual 86, 3) := by decide +kernel
theorem dX0_areaOf_5 : decode cX0_areaOf 5 = .ok (.aload_n 0, 1) := by decide +kernel
theorem dX0_areaOf_6 : decode cX0_areaOf 6 = .ok (.getfield 31, 3) := by decide +kernel
theorem dX0_areaOf_9 : decode cX0_areaOf 9 = .ok (.imul, 1) := by decide +kernel
theorem dX0_areaOf_10 : decode cX0_areaOf 10 = .ok (.ireturn, 1) := by decide +kernel
theorem dX0_figureOf_0 : decode cX0_figureOf 0 = .ok (.aload_n 0, 1) := by decide +kernel
theorem dX0_figureOf_1 : decode cX0_figureOf 1 = .ok (.iload_n 1, 1) := by decide +kernel
theorem dX0_figureOf_2 : decode cX0_figureOf 2 = .ok (.invokevirtual 82, 3) := by decide +kernel
theorem dX0_figureOf_5 : decode cX0_figureOf 5 = .ok (.ifCond .eq 12, 3) := by decide +kernel
theorem dX0_figureOf_8 : decode cX0_figureOf 8 = .ok (.aload_n 0, 1) := by decide +kernel
theorem dX0_figureOf_9 : decode cX0_figureOf 9 = .ok (.getfield 15, 3) := by decide +kernel
theorem dX0_figureOf_12 : decode cX0_figureOf 12 = .ok (.iload_n 1, 1) := by decide +kernel
theorem dX0_figureOf_13 : decode cX0_figureOf 13 = .ok (.iaload, 1) := by decide +kernel
theorem dX0_figureOf_14 : decode cX0_figureOf 14 = .ok (.goto 4, 3) := by decide +kernel
theorem dX0_figureOf_17 : decode cX0_figureOf 17 = .ok (.iconst 0, 1) := by decide +kernel
theorem dX0_figureOf_18 : decode cX0_figureOf 18 = .ok (.ireturn, 1) := by decide +kernel
theorem dX0_isTaken_0 : decode cX0_isTaken 0 = .ok (.aload_n 0, 1) := by decide +kernel
theorem dX0_isTaken_1 : decode cX0_isTaken 1 = .ok (.iload_n 1, 1) := by decide +kernel
theorem dX0_isTaken_2 : decode cX0_isTaken 2 = .ok (.invokevirtual 82, 3) := by decide +kernel
theorem dX0_isTaken_5 : decode cX0_isTaken 5 = .ok (.ifCond .eq 16, 3) := by decide +kernel
theorem dX0_isTaken_8 : decode cX0_isTaken 8 = .ok (.aload_n 0, 1) := by decide +kernel
theorem dX0_isTaken_9 : decode cX0_isTaken 9 = .ok (.getfield 18, 3) := by decide +kernel
theorem dX0_isTaken_12 : decode cX0_isTaken 12 = .ok (.iload_n 1, 1) := by decide +kernel
theorem dX0_isTaken_13 : decode cX0_isTaken 13 = .ok (.baload, 1) := by decide +kernel
theorem dX0_isTaken_14 : decode cX0_isTaken 14 = .ok (.ifCond .eq 7, 3) := by decide +kernel
theorem dX0_isTaken_17 : decode cX0_isTaken 17 = .ok (.iconst 1, 1) := by decide +kernel
theorem dX0_isTaken_18 : decode cX0_isTaken 18 = .ok (.goto 4, 3) := by decide +kernel
theorem dX0_isTaken_21 : decode cX0_isTaken 21 = .ok (.iconst 0, 1) := by decide +kernel
theorem dX0_isTaken_22 : decode cX0_isTaken 22 = .ok (.ireturn, 1) := by decide +kernel
theorem dX0_isFree_0 : decode cX0_isFree 0 = .ok (.iconst 0, 1) := by decide +kernel
theorem dX0_isFree_1 : decode cX0_isFree 1 = .ok (.istore 4, 2) := by decide +kernel
theorem dX0_isFree_3 : decode cX0_isFree 3 = .ok (.iload 4, 2) := by decide +kernel
theorem dX0_isFree_5 : decode cX0_isFree 5 = .ok (.iload_n 2, 1) := by decide +kernel
theorem dX0_isFree_6 : decode cX0_isFree 6 = .ok (.if_icmp .ge 47, 3) := by decide +kernel
theorem dX0_isFree_9 : decode cX0_isFree 9 = .ok (.iload_n 1, 1) := by decide +kernel
theorem dX0_isFree_10 : decode cX0_isFree 10 = .ok (.iload 4, 2) := by decide +kernel
theorem dX0_isFree_12 : decode cX0_isFree 12 = .ok (.iadd, 1) := by decide +kernel
theorem dX0_isFree_13 : decode cX0_isFree 13 = .ok (.istore 5, 2) := by decide +kernel
theorem dX0_isFree_15 : decode cX0_isFree 15 = .ok (.aload_n 0, 1) := by decide +kernel
theorem dX0_isFree_16 : decode cX0_isFree 16 = .ok (.iload 5, 2) := by decide +kernel
theorem dX0_isFree_18 : decode cX0_isFree 18 = .ok (.invokevirtual 82, 3) := by decide +kernel
theorem dX0_isFree_21 : decode cX0_isFree 21 = .ok (.ifCond .eq 24, 3) := by decide +kernel
theorem dX0_isFree_24 : decode cX0_isFree 24 = .ok (.aload_n 0, 1) := by decide +kernel
theorem dX0_isFree_25 : decode cX0_isFree 25 = .ok (.getfield 18, 3) := by decide +kernel
theorem dX0_isFree_28 : decode cX0_isFree 28 = .ok (.iload 5, 2) := by decide +kernel
theorem dX0_isFree_30 : decode cX0_isFree 30 = .ok (.baload, 1) := by decide +kernel
theorem dX0_isFree_31 : decode cX0_isFree 31 = .ok (.ifCond .ne 14, 3) := by decide +kernel
theorem dX0_isFree_34 : decode cX0_isFree 34 = .ok (.aload_n 0, 1) := by decide +kernel
theorem dX0_isFree_35 : decode cX0_isFree 35 = .ok (.getfield 9, 3) := by decide +kernel
theorem dX0_isFree_38 : decode cX0_isFree 38 = .ok (.iload 5, 2) := by decide +kernel
theorem dX0_isFree_40 : decode cX0_isFree 40 = .ok (.iaload, 1) := by decide +kernel
theorem dX0_isFree_41 : decode cX0_isFree 41 = .ok (.iload_n 3, 1) := by decide +kernel
theorem dX0_isFree_42 : decode cX0_isFree 42 = .ok (.if_icmp .ge 5, 3) := by decide +kernel
theorem dX0_isFree_45 : decode cX0_isFree 45 = .ok (.iconst 0, 1) := by decide +kernel
theorem dX0_isFree_46 : decode cX0_isFree 46 = .ok (.ireturn, 1) := by decide +kernel
theorem dX0_isFree_47 : decode cX0_isFree 47 = .ok (.iinc 4 1, 3) := by decide +kernel
theorem dX0_isFree_50 : decode cX0_isFree 50 = .ok (.goto (-47), 3) := by decide +kernel
theorem dX0_isFree_53 : decode cX0_isFree 53 = .ok (.iconst 1, 1) := by decide +kernel
theorem dX0_isFree_54 : decode cX0_isFree 54 = .ok (.ireturn, 1) := by decide +kernel
theorem dX0_use_0 : decode cX0_use 0 = .ok (.iconst 0, 1) := by decide +kernel
theorem dX0_use_1 : decode cX0_use 1 = .ok (.istore_n 3, 1) := by decide +kernel
theorem dX0_use_2 : decode cX0_use 2 = .ok (.iconst 0, 1) := by decide +kernel
theorem dX0_use_3 : decode cX0_use 3 = .ok (.istore 4, 2) := by decide +kernel
theorem dX0_use_5 : decode cX0_use 5 = .ok (.iload 4, 2) := by decide +kernel
theorem dX0_use_7 : decode cX0_use 7 = .ok (.iload_n 2, 1) := by decide +kernel
theorem dX0_use_8 : decode cX0_use 8 = .ok (.if_icmp .ge 51, 3) := by decide +kernel
theorem dX0_use_11 : decode cX0_use 11 = .ok (.iload_n 1, 1) := by decide +kernel
theorem dX0_use_12 : decode cX0_use 12 = .ok (.iload 4, 2) := by decide +kernel
theorem dX0_use_14 : decode cX0_use 14 = .ok (.iadd, 1) := by decide +kernel
theorem dX0_use_15 : decode cX0_use 15 = .ok (.istore 5, 2) := by decide +kernel
theorem dX0_use_17 : decode cX0_use 17 = .ok (.aload_n 0, 1) := by decide +kernel
theorem dX0_use_18 : decode cX0_use 18 = .ok (.iload 5, 2) := by decide +kernel
theorem dX0_use_20 : decode cX0_use 20 = .ok (.invokevirtual 82, 3) := by decide +kernel
theorem dX0_use_23 : decode cX0_use 23 = .ok (.ifCond .eq 30, 3) := by decide +kernel
theorem dX0_use_26 : decode cX0_use 26 = .ok (.aload_n 0, 1) := by decide +kernel
theorem dX0_use_27 : decode cX0_use 27 = .ok (.getfield 18, 3) := by decide +kernel
theorem dX0_use_30 : decode cX0_use 30 = .ok (.iload 5, 2) := by decide +kernel
theorem dX0_use_32 : decode cX0_use 32 = .ok (.iconst 1, 1) := by decide +kernel
theorem dX0_use_33 : decode cX0_use 33 = .ok (.bastore, 1) := by decide +kernel
theorem dX0_use_34 : decode cX0_use 34 = .ok (.aload_n 0, 1) := by decide +kernel
theorem dX0_use_35 : decode cX0_use 35 = .ok (.dup, 1) := by decide +kernel
theorem dX0_use_36 : decode cX0_use 36 = .ok (.getfield 89, 3) := by decide +kernel
theorem dX0_use_39 : decode cX0_use 39 = .ok (.iconst 1, 1) := by decide +kernel
theorem dX0_use_40 : decode cX0_use 40 = .ok (.iadd, 1) := by decide +kernel
theorem dX0_use_41 : decode cX0_use 41 = .ok (.putfield 89, 3) := by decide +kernel
theorem dX0_use_44 : decode cX0_use 44 = .ok (.iload_n 3, 1) := by decide +kernel
theorem dX0_use_45 : decode cX0_use 45 = .ok (.aload_n 0, 1) := by decide +kernel
theorem dX0_use_46 : decode cX0_use 46 = .ok (.iload 5, 2) := by decide +kernel
theorem dX0_use_48 : decode cX0_use 48 = .ok (.invokevirtual 92, 3) := by decide +kernel
theorem dX0_use_51 : decode cX0_use 51 = .ok (.iadd, 1) := by decide +kernel
theorem dX0_use_52 : decode cX0_use 52 = .ok (.istore_n 3, 1) := by decide +kernel
theorem dX0_use_53 : decode cX0_use 53 = .ok (.iinc 4 1, 3) := by decide +kernel
theorem dX0_use_56 : decode cX0_use 56 = .ok (.goto (-51), 3) := by decide +kernel
theorem dX0_use_59 : decode cX0_use 59 = .ok (.iload_n 3, 1) := by decide +kernel
theorem dX0_use_60 : decode cX0_use 60 = .ok (.ireturn, 1) := by decide +kernel
theorem dX1_init_0 : decode cX1_init 0 = .ok (.aload_n 0, 1) := by decide +kernel
theorem dX1_init_1 : decode cX1_init 1 = .ok (.invokespecial 1, 3) := by decide +kernel
theorem dX1_init_4 : decode cX1_init 4 = .ok (.aload_n 0, 1) := by decide +kernel
theorem dX1_init_5 : decode cX1_init 5 = .ok (.iload_n 1, 1) := by decide +kernel
theorem dX1_init_6 : decode cX1_init 6 = .ok (.putfield 7, 3) := by decide +kernel
theorem dX1_init_9 : decode cX1_init 9 = .ok (.aload_n 0, 1) := by decide +kernel
theorem dX1_init_10 : decode cX1_init 10 = .ok (.iload_n 2, 1) := by decide +kernel
theorem dX1_init_11 : decode cX1_init 11 = .ok (.putfield 13, 3) := by decide +kernel
theorem dX1_init_14 : decode cX1_init 14 = .ok (.aload_n 0, 1) := by decide +kernel
theorem dX1_init_15 : decode cX1_init 15 = .ok (.iload_n 3, 1) := by decide +kernel
theorem dX1_init_16 : decode cX1_init 16 = .ok (.putfield 17, 3) := by decide +kernel
theorem dX1_init_19 : decode cX1_init 19 = .ok (.aload_n 0, 1) := by decide +kernel
theorem dX1_init_20 : decode cX1_init 20 = .ok (.iload 4, 2) := by decide +kernel
theorem dX1_init_22 : decode cX1_init 22 = .ok (.putfield 20, 3) := by decide +kernel
theorem dX1_init_25 : decode cX1_init 25 = .ok (.return_, 1) := by decide +kernel
theorem dX1_radius_0 : decode cX1_radius 0 = .ok (.aload_n 0, 1) := by decide +kernel
theorem dX1_radius_1 : decode cX1_radius 1 = .ok (.getfield 13, 3) := by decide +kernel
theorem dX1_radius_4 : decode cX1_radius 4 = .ok (.iconst 2, 1) := by decide +kernel
theorem dX1_radius_5 : decode cX1_radius 5 = .ok (.idiv, 1) := by decide +kernel
theorem dX1_radius_6 : decode cX1_radius 6 = .ok (.ireturn, 1) := by decide +kernel
theorem dX1_swelling_0 : decode cX1_swelling 0 = .ok (.aload_n 0, 1) := by decide +kernel
theorem dX1_swelling_1 : decode cX1_swelling 1 = .ok (.getfield 7, 3) := by decide +kernel
theorem dX1_swelling_4 : decode cX1_swelling 4 = .ok (.bipush 119, 2) := by decide +kernel
theorem dX1_swelling_6 : decode cX1_swelling 6 = .ok (.if_icmp .ne 8, 3) := by decide +kernel
theorem dX1_swelling_9 : decode cX1_swelling 9 = .ok (.bipush 6, 2) := by decide +kernel
theorem dX1_swelling_11 : decode cX1_swelling 11 = .ok (.goto 32, 3) := by decide +kernel
theorem dX1_swelling_14 : decode cX1_swelling 14 = .ok (.aload_n 0, 1) := by decide +kernel
theorem dX1_swelling_15 : decode cX1_swelling 15 = .ok (.getfield 7, 3) := by decide +kernel
theorem dX1_swelling_18 : decode cX1_swelling 18 = .ok (.bipush 109, 2) := by decide +kernel
theorem dX1_swelling_20 : decode cX1_swelling 20 = .ok (.if_icmp .ne 8, 3) := by decide +kernel
theorem dX1_swelling_23 : decode cX1_swelling 23 = .ok (.bipush 8, 2) := by decide +kernel
theorem dX1_swelling_25 : decode cX1_swelling 25 = .ok (.goto 18, 3) := by decide +kernel
theorem dX1_swelling_28 : decode cX1_swelling 28 = .ok (.aload_n 0, 1) := by decide +kernel
theorem dX1_swelling_29 : decode cX1_swelling 29 = .ok (.getfield 7, 3) := by decide +kernel
theorem dX1_swelling_32 : decode cX1_swelling 32 = .ok (.bipush 111, 2) := by decide +kernel
theorem dX1_swelling_34 : decode cX1_swelling 34 = .ok (.if_icmp .ne 8, 3) := by decide +kernel
theorem dX1_swelling_37 : decode cX1_swelling 37 = .ok (.bipush 9, 2) := by decide +kernel
theorem dX1_swelling_39 : decode cX1_swelling 39 = .ok (.goto 4, 3) := by decide +kernel
theorem dX1_swelling_42 : decode cX1_swelling 42 = .ok (.iconst 4, 1) := by decide +kernel
theorem dX1_swelling_43 : decode cX1_swelling 43 = .ok (.ireturn, 1) := by decide +kernel
theorem dX2_init_0 : decode cX2_init 0 = .ok (.aload_n 0, 1) := by decide +kernel
theorem dX2_init_1 : decode cX2_init 1 = .ok (.invokespecial 1, 3) := by decide +kernel
theorem dX2_init_4 : decode cX2_init 4 = .ok (.aload_n 0, 1) := by decide +kernel
theorem dX2_init_5 : decode cX2_init 5 = .ok (.iload_n 1, 1) := by decide +kernel
theorem dX2_init_6 : decode cX2_init 6 = .ok (.putfield 7, 3) := by decide +kernel
theorem dX2_init_9 : decode cX2_init 9 = .ok (.aload_n 0, 1) := by decide +kernel
theorem dX2_init_10 : decode cX2_init 10 = .ok (.iload_n 2, 1) := by decide +kernel
theorem dX2_init_11 : decode cX2_init 11 = .ok (.putfield 13, 3) := by decide +kernel
theorem dX2_init_14 : decode cX2_init 14 = .ok (.return_, 1) := by decide +kernel
theorem dX2_surface_0 : decode cX2_surface 0 = .ok (.aload_n 0, 1) := by decide +kernel
theorem dX2_surface_1 : decode cX2_surface 1 = .ok (.getfield 7, 3) := by decide +kernel
theorem dX2_surface_4 : decode cX2_surface 4 = .ok (.aload_n 0, 1) := by decide +kernel
theorem dX2_surface_5 : decode cX2_surface 5 = .ok (.getfield 13, 3) := by decide +kernel
theorem dX2_surface_8 : decode cX2_surface 8 = .ok (.imul, 1) := by decide +kernel
theorem dX2_surface_9 : decode cX2_surface 9 = .ok (.ireturn, 1) := by decide +kernel
theorem dX2_isSmallerThan_0 : decode cX2_isSmallerThan 0 = .ok (.aload_n 0, 1) := by decide +kernel
theorem dX2_isSmallerThan_1 : decode cX2_isSmallerThan 1 = .ok (.getfield 7, 3) := by decide +kernel
theorem dX2_isSmallerThan_4 : decode cX2_isSmallerThan 4 = .ok (.aload_n 1, 1) := by decide +kernel
theorem dX2_isSmallerThan_5 : decode cX2_isSmallerThan 5 = .ok (.getfield 7, 3) := by decide +kernel
theorem dX2_isSmallerThan_8 : decode cX2_isSmallerThan 8 = .ok (.if_icmp .lt 25, 3) := by decide +kernel
theorem dX2_isSmallerThan_11 : decode cX2_isSmallerThan 11 = .ok (.aload_n 0, 1) := by decide +kernel
theorem dX2_isSmallerThan_12 : decode cX2_isSmallerThan 12 = .ok (.getfield 7, 3) := by decide +kernel
theorem dX2_isSmallerThan_15 : decode cX2_isSmallerThan 15 = .ok (.aload_n 1, 1) := by decide +kernel
theorem dX2_isSmallerThan_16 : decode cX2_isSmallerThan 16 = .ok (.getfield 7, 3) := by decide +kernel
theorem dX2_isSmallerThan_19 : decode cX2_isSmallerThan 19 = .ok (.if_icmp .ne 18, 3) := by decide +kernel
theorem dX2_isSmallerThan_22 : decode cX2_isSmallerThan 22 = .ok (.aload_n 0, 1) := by decide +kernel
theorem dX2_isSmallerThan_23 : decode cX2_isSmallerThan 23 = .ok (.getfield 13, 3) := by decide +kernel
theorem dX2_isSmallerThan_26 : decode cX2_isSmallerThan 26 = .ok (.aload_n 1, 1) := by decide +kernel
theorem dX2_isSmallerThan_27 : decode cX2_isSmallerThan 27 = .ok (.getfield 13, 3) := by decide +kernel
theorem dX2_isSmallerThan_30 : decode cX2_isSmallerThan 30 = .ok (.if_icmp .ge 7, 3) := by decide +kernel
theorem dX2_isSmallerThan_33 : decode cX2_isSmallerThan 33 = .ok (.iconst 1, 1) := by decide +kernel
theorem dX2_isSmallerThan_34 : decode cX2_isSmallerThan 34 = .ok (.goto 4, 3) := by decide +kernel
theorem dX2_isSmallerThan_37 : decode cX2_isSmallerThan 37 = .ok (.iconst 0, 1) := by decide +kernel
theorem dX2_isSmallerThan_38 : decode cX2_isSmallerThan 38 = .ok (.ireturn, 1) := by decide +kernel
theorem dX3_init_0 : decode cX3_init 0 = .ok (.aload_n 0, 1) := by decide +kernel
theorem dX3_init_1 : decode cX3_init 1 = .ok (.invokespecial 1, 3) := by decide +kernel
theorem dX3_init_4 : decode cX3_init 4 = .ok (.aload_n 0, 1) := by decide +kernel
theorem dX3_init_5 : decode cX3_init 5 = .ok (.aload_n 1, 1) := by decide +kernel
theorem dX3_init_6 : decode cX3_init 6 = .ok (.putfield 7, 3) := by decide +kernel
theorem dX3_init_9 : decode cX3_init 9 = .ok (.aload_n 0, 1) := by decide +kernel
theorem dX3_init_10 : decode cX3_init 10 = .ok (.iload_n 2, 1) := by decide +kernel
theorem dX3_init_11 : decode cX3_init 11 = .ok (.putfield 13, 3) := by decide +kernel
theorem dX3_init_14 : decode cX3_init 14 = .ok (.aload_n 0, 1) := by decide +kernel
theorem dX3_init_15 : decode cX3_init 15 = .ok (.iload_n 3, 1) := by decide +kernel
theorem dX3_init_16 : decode cX3_init 16 = .ok (.putfield 17, 3) := by decide +kernel
theorem dX3_init_19 : decode cX3_init 19 = .ok (.return_, 1) := by decide +kernel
theorem dX3_holds_0 : decode cX3_holds 0 = .ok (.aload_n 0, 1) := by decide +kernel
theorem dX3_holds_1 : decode cX3_holds 1 = .ok (.getfield 7, 3) := by decide +kernel
theorem dX3_holds_4 : decode cX3_holds 4 = .ok (.aload_n 1, 1) := by decide +kernel
theorem dX3_holds_5 : decode cX3_holds 5 = .ok (.if_acmp .ne 28, 3) := by decide +kernel
theorem dX3_holds_8 : decode cX3_holds 8 = .ok (.iload_n 2, 1) := by decide +kernel
theorem dX3_holds_9 : decode cX3_holds 9 = .ok (.aload_n 0, 1) := by decide +kernel
theorem dX3_holds_10 : decode cX3_holds 10 = .ok (.getfield 13, 3) := by decide +kernel
theorem dX3_holds_13 : decode cX3_holds 13 = .ok (.if_icmp .lt 20, 3) := by decide +kernel
theorem dX3_holds_16 : decode cX3_holds 16 = .ok (.iload_n 2, 1) := by decide +kernel
theorem dX3_holds_17 : decode cX3_holds 17 = .ok (.aload_n 0, 1) := by decide +kernel
theorem dX3_holds_18 : decode cX3_holds 18 = .ok (.getfield 13, 3) := by decide +kernel
theorem dX3_holds_21 : decode cX3_holds 21 = .ok (.aload_n 0, 1) := by decide +kernel
theorem dX3_holds_22 : decode cX3_holds 22 = .ok (.getfield 17, 3) := by decide +kernel
theorem dX3_holds_25 : decode cX3_holds 25 = .ok (.iadd, 1) := by decide +kernel
theorem dX3_holds_26 : decode cX3_holds 26 = .ok (.if_icmp .ge 7, 3) := by decide +kernel
theorem dX3_holds_29 : decode cX3_holds 29 = .ok (.iconst 1, 1) := by decide +kernel
theorem dX3_holds_30 : decode cX3_holds 30 = .ok (.goto 4, 3) := by decide +kernel
theorem dX3_holds_33 : decode cX3_holds 33 = .ok (.iconst 0, 1) := by decide +kernel
theorem dX3_holds_34 : decode cX3_holds 34 = .ok (.ireturn, 1) := by decide +kernel
theorem dX3_leafFor_0 : decode cX3_leafFor 0 = .ok (.aload_n 0, 1) := by decide +kernel
theorem dX3_leafFor_1 : decode cX3_leafFor 1 = .ok (.getfield 17, 3) := by decide +kernel
theorem dX3_leafFor_4 : decode cX3_leafFor 4 = .ok (.ifCond .gt 10, 3) := by decide +kernel
theorem dX3_leafFor_7 : decode cX3_leafFor 7 = .ok (.aload_n 0, 1) := by decide +kernel
theorem dX3_leafFor_8 : decode cX3_leafFor 8 = .ok (.getfield 13, 3) := by decide +kernel
theorem dX3_leafFor_11 : decode cX3_leafFor 11 = .ok (.goto 16, 3) := by decide +kernel
theorem dX3_leafFor_14 : decode cX3_leafFor 14 = .ok (.aload_n 0, 1) := by decide +kernel
theorem dX3_leafFor_15 : decode cX3_leafFor 15 = .ok (.getfield 13, 3) := by decide +kernel
theorem dX3_leafFor_18 : decode cX3_leafFor 18 = .ok (.iload_n 1, 1) := by decide +kernel
theorem dX3_leafFor_19 : decode cX3_leafFor 19 = .ok (.iload_n 2, 1) := by decide +kernel
theorem dX3_leafFor_20 : decode cX3_leafFor 20 = .ok (.iadd, 1) := by decide +kernel
theorem dX3_leafFor_21 : decode cX3_leafFor 21 = .ok (.aload_n 0, 1) := by decide +kernel
theorem dX3_leafFor_22 : decode cX3_leafFor 22 = .ok (.getfield 17, 3) := by decide +kernel
theorem dX3_leafFor_25 : decode cX3_leafFor 25 = .ok (.irem, 1) := by decide +kernel
theorem dX3_leafFor_26 : decode cX3_leafFor 26 = .ok (.iadd, 1) := by decide +kernel
theorem dX3_leafFor_27 : decode cX3_leafFor 27 = .ok (.ireturn, 1) := by decide +kernel
theorem dX3_pullBy_0 : decode cX3_pullBy 0 = .ok (.aload_n 0, 1) := by decide +kernel
theorem dX3_pullBy_1 : decode cX3_pullBy 1 = .ok (.getfield 7, 3) := by decide +kernel
theorem dX3_pullBy_4 : decode cX3_pullBy 4 = .ok (.getfield 20, 3) := by decide +kernel
theorem dX3_pullBy_7 : decode cX3_pullBy 7 = .ok (.aload_n 0, 1) := by decide +kernel
theorem dX3_pullBy_8 : decode cX3_pullBy 8 = .ok (.getfield 7, 3) := by decide +kernel
theorem dX3_pullBy_11 : decode cX3_pullBy 11 = .ok (.getfield 25, 3) := by decide +kernel
theorem dX3_pullBy_14 : decode cX3_pullBy 14 = .ok (.imul, 1) := by decide +kernel
theorem dX3_pullBy_15 : decode cX3_pullBy 15 = .ok (.iload_n 1, 1) := by decide +kernel
theorem dX3_pullBy_16 : decode cX3_pullBy 16 = .ok (.imul, 1) := by decide +kernel
theorem dX3_pullBy_17 : decode cX3_pullBy 17 = .ok (.ireturn, 1) := by decide +kernel
theorem dX4_init_0 : decode cX4_init 0 = .ok (.aload_n 0, 1) := by decide +kernel
theorem dX4_init_1 : decode cX4_init 1 = .ok (.invokespecial 3, 3) := by decide +kernel
theorem dX4_init_4 : decode cX4_init 4 = .ok (.aload_n 0, 1) := by decide +kernel
theorem dX4_init_5 : decode cX4_init 5 = .ok (.iload_n 1, 1) := by decide +kernel
theorem dX4_init_6 : decode cX4_init 6 = .ok (.putfield 9, 3) := by decide +kernel
theorem dX4_init_9 : decode cX4_init 9 = .ok (.aload_n 0, 1) := by decide +kernel
theorem dX4_init_10 : decode cX4_init 10 = .ok (.iload_n 2, 1) := by decide +kernel
theorem dX4_init_11 : decode cX4_init 11 = .ok (.putfield 15, 3) := by decide +kernel
theorem dX4_init_14 : decode cX4_init 14 = .ok (.aload_n 0, 1) := by decide +kernel
theorem dX4_init_15 : decode cX4_init 15 = .ok (.iload_n 3, 1) := by decide +kernel
theorem dX4_init_16 : decode cX4_init 16 = .ok (.putfield 18, 3) := by decide +kernel
theorem dX4_init_19 : decode cX4_init 19 = .ok (.aload_n 0, 1) := by decide +kernel
theorem dX4_init_20 : decode cX4_init 20 = .ok (.iload 4, 2) := by decide +kernel
theorem dX4_init_22 : decode cX4_init 22 = .ok (.putfield 22, 3) := by decide +kernel
theorem dX4_init_25 : decode cX4_init 25 = .ok (.return_, 1) := by decide +kernel
theorem dX4_surface_0 : decode cX4_surface 0 = .ok (.aload_n 0, 1) := by decide +kernel
theorem dX4_surface_1 : decode cX4_surface 1 = .ok (.getfield 9, 3) := by decide +kernel
theorem dX4_surface_4 : decode cX4_surface 4 = .ok (.aload_n 0, 1) := by decide +kernel
theorem dX4_surface_5 : decode cX4_surface 5 = .ok (.getfield 15, 3) := by decide +kernel
theorem dX4_surface_8 : decode cX4_surface 8 = .ok (.imul, 1) := by decide +kernel
theorem dX4_surface_9 : decode cX4_surface 9 = .ok (.ireturn, 1) := by decide +kernel
theorem dX4_cupAt_0 : decode cX4_cupAt 0 = .ok (.iload_n 1, 1) := by decide +kernel
theorem dX4_cupAt_1 : decode cX4_cupAt 1 = .ok (.aload_n 0, 1) := by decide +kernel
theorem dX4_cupAt_2 : decode cX4_cupAt 2 = .ok (.getfield 25, 3) := by decide +kernel
theorem dX4_cupAt_5 : decode cX4_cupAt 5 = .ok (.isub, 1) := by decide +kernel
theorem dX4_cupAt_6 : decode cX4_cupAt 6 = .ok (.istore_n 2, 1) := by decide +kernel
theorem dX4_cupAt_7 : decode cX4_cupAt 7 = .ok (.aload_n 0, 1) := by decide +kernel
theorem dX4_cupAt_8 : decode cX4_cupAt 8 = .ok (.getfield 28, 3) := by decide +kernel
theorem dX4_cupAt_11 : decode cX4_cupAt 11 = .ok (.iload_n 2, 1) := by decide +kernel
theorem dX4_cupAt_12 : decode cX4_cupAt 12 = .ok (.invokestatic 32, 3) := by decide +kernel
theorem dX4_cupAt_15 : decode cX4_cupAt 15 = .ok (.aload_n 0, 1) := by decide +kernel
theorem dX4_cupAt_16 : decode cX4_cupAt 16 = .ok (.getfield 36, 3) := by decide +kernel
theorem dX4_cupAt_19 : decode cX4_cupAt 19 = .ok (.iload_n 2, 1) := by decide +kernel
theorem dX4_cupAt_20 : decode cX4_cupAt 20 = .ok (.invokestatic 32, 3) := by decide +kernel
theorem dX4_cupAt_23 : decode cX4_cupAt 23 = .ok (.isub, 1) := by decide +kernel
theorem dX4_cupAt_24 : decode cX4_cupAt 24 = .ok (.istore_n 3, 1) := by decide +kernel
theorem dX4_cupAt_25 : decode cX4_cupAt 25 = .ok (.aload_n 0, 1) := by decide +kernel
theorem dX4_cupAt_26 : decode cX4_cupAt 26 = .ok (.getfield 22, 3) := by decide +kernel
theorem dX4_cupAt_29 : decode cX4_cupAt 29 = .ok (.aload_n 0, 1) := by decide +kernel
theorem dX4_cupAt_30 : decode cX4_cupAt 30 = .ok (.getfield 18, 3) := by decide +kernel
theorem dX4_cupAt_33 : decode cX4_cupAt 33 = .ok (.bipush 115, 2) := by decide +kernel
theorem dX4_cupAt_35 : decode cX4_cupAt 35 = .ok (.if_icmp .ne 7, 3) := by decide +kernel
theorem dX4_cupAt_38 : decode cX4_cupAt 38 = .ok (.iconst 1, 1) := by decide +kernel
theorem dX4_cupAt_39 : decode cX4_cupAt 39 = .ok (.goto 17, 3) := by decide +kernel
theorem dX4_cupAt_42 : decode cX4_cupAt 42 = .ok (.aload_n 0, 1) := by decide +kernel
theorem dX4_cupAt_43 : decode cX4_cupAt 43 = .ok (.getfield 18, 3) := by decide +kernel
theorem dX4_cupAt_46 : decode cX4_cupAt 46 = .ok (.bipush 99, 2) := by decide +kernel
theorem dX4_cupAt_48 : decode cX4_cupAt 48 = .ok (.if_icmp .ne 7, 3) := by decide +kernel
theorem dX4_cupAt_51 : decode cX4_cupAt 51 = .ok (.iconst 3, 1) := by decide +kernel
theorem dX4_cupAt_52 : decode cX4_cupAt 52 = .ok (.goto 4, 3) := by decide +kernel
theorem dX4_cupAt_55 : decode cX4_cupAt 55 = .ok (.iconst 2, 1) := by decide +kernel
theorem dX4_cupAt_56 : decode cX4_cupAt 56 = .ok (.imul, 1) := by decide +kernel
theorem dX4_cupAt_57 : decode cX4_cupAt 57 = .ok (.istore 4, 2) := by decide +kernel
theorem dX4_cupAt_59 : decode cX4_cupAt 59 = .ok (.iload 4, 2) := by decide +kernel
theorem dX4_cupAt_61 : decode cX4_cupAt 61 = .ok (.ifCond .gt 7, 3) := by decide +kernel
theorem dX4_cupAt_64 : decode cX4_cupAt 64 = .ok (.iconst 0, 1) := by decide +kernel
theorem dX4_cupAt_65 : decode cX4_cupAt 65 = .ok (.goto 10, 3) := by decide +kernel
theorem dX4_cupAt_68 : decode cX4_cupAt 68 = .ok (.bipush 10, 2) := by decide +kernel
theorem dX4_cupAt_70 : decode cX4_cupAt 70 = .ok (.iload_n 3, 1) := by decide +kernel
theorem dX4_cupAt_71 : decode cX4_cupAt 71 = .ok (.imul, 1) := by decide +kernel
theorem dX4_cupAt_72 : decode cX4_cupAt 72 = .ok (.iload 4, 2) := by decide +kernel
theorem dX4_cupAt_74 : decode cX4_cupAt 74 = .ok (.idiv, 1) := by decide +kernel
theorem dX4_cupAt_75 : decode cX4_cupAt 75 = .ok (.ireturn, 1) := by decide +kernel
theorem dX4_pullOf_0 : decode cX4_pullOf 0 = .ok (.aload_n 0, 1) := by decide +kernel
theorem dX4_pullOf_1 : decode cX4_pullOf 1 = .ok (.ifnonnull 7, 3) := by decide +kernel
theorem dX4_pullOf_4 : decode cX4_pullOf 4 = .ok (.iconst 0, 1) := by decide +kernel
theorem dX4_pullOf_5 : decode cX4_pullOf 5 = .ok (.goto 8, 3) := by decide +kernel
theorem dX4_pullOf_8 : decode cX4_pullOf 8 = .ok (.aload_n 0, 1) := by decide +kernel
theorem dX4_pullOf_9 : decode cX4_pullOf 9 = .ok (.iload_n 1, 1) := by decide +kernel
theorem dX4_pullOf_10 : decode cX4_pullOf 10 = .ok (.invokevirtual 39, 3) := by decide +kernel
theorem dX4_pullOf_13 : decode cX4_pullOf 13 = .ok (.ireturn, 1) := by decide +kernel
theorem dX4_isFlatAt_0 : decode cX4_isFlatAt 0 = .ok (.aload_n 0, 1) := by decide +kernel
theorem dX4_isFlatAt_1 : decode cX4_isFlatAt 1 = .ok (.iload_n 1, 1) := by decide +kernel
theorem dX4_isFlatAt_2 : decode cX4_isFlatAt 2 = .ok (.invokevirtual 45, 3) := by decide +kernel
theorem dX4_isFlatAt_5 : decode cX4_isFlatAt 5 = .ok (.bipush (-3), 2) := by decide +kernel
theorem dX4_isFlatAt_7 : decode cX4_isFlatAt 7 = .ok (.iconst 3, 1) := by decide +kernel
theorem dX4_isFlatAt_8 : decode cX4_isFlatAt 8 = .ok (.invokestatic 48, 3) := by decide +kernel
theorem dX4_isFlatAt_11 : decode cX4_isFlatAt 11 = .ok (.ireturn, 1) := by decide +kernel
theorem dX4_isWornThrough_0 : decode cX4_isWornThrough 0 = .ok (.aload_n 0, 1) := by decide +kernel
theorem dX4_isWornThrough_1 : decode cX4_isWornThrough 1 = .ok (.getfield 28, 3) := by decide +kernel
theorem dX4_isWornThrough_4 : decode cX4_isWornThrough 4 = .ok (.ifnull 16, 3) := by decide +kernel
theorem dX4_isWornThrough_7 : decode cX4_isWornThrough 7 = .ok (.aload_n 0, 1) := by decide +kernel
theorem dX4_isWornThrough_8 : decode cX4_isWornThrough 8 = .ok (.getfield 52, 3) := by decide +kernel
theorem dX4_isWornThrough_11 : decode cX4_isWornThrough 11 = .ok (.bipush 10, 2) := by decide +kernel
theorem dX4_isWornThrough_13 : decode cX4_isWornThrough 13 = .ok (.if_icmp .gt 7, 3) := by decide +kernel
theorem dX4_isWornThrough_16 : decode cX4_isWornThrough 16 = .ok (.iconst 1, 1) := by decide +kernel
theorem dX4_isWornThrough_17 : decode cX4_isWornThrough 17 = .ok (.goto 4, 3) := by decide +kernel
theorem dX4_isWornThrough_20 : decode cX4_isWornThrough 20 = .ok (.iconst 0, 1) := by decide +kernel
theorem dX4_isWornThrough_21 : decode cX4_isWornThrough 21 = .ok (.ireturn, 1) := by decide +kernel
theorem dX4_polish_0 : decode cX4_polish 0 = .ok (.iload_n 1, 1) := by decide +kernel
theorem dX4_polish_1 : decode cX4_polish 1 = .ok (.iconst 0, 1) := by decide +kernel
theorem dX4_polish_2 : decode cX4_polish 2 = .ok (.iconst 3, 1) := by decide +kernel
theorem dX4_polish_3 : decode cX4_polish 3 = .ok (.aload_n 0, 1) := by decide +kernel
theorem dX4_polish_4 : decode cX4_polish 4 = .ok (.getfield 55, 3) := by decide +kernel
theorem dX4_polish_7 : decode cX4_polish 7 = .ok (.isub, 1) := by decide +kernel
theorem dX4_polish_8 : decode cX4_polish 8 = .ok (.invokestatic 58, 3) := by decide +kernel
theorem dX4_polish_11 : decode cX4_polish 11 = .ok (.invokestatic 64, 3) := by decide +kernel
theorem dX4_polish_14 : decode cX4_polish 14 = .ok (.istore_n 2, 1) := by decide +kernel
theorem dX4_polish_15 : decode cX4_polish 15 = .ok (.aload_n 0, 1) := by decide +kernel
theorem dX4_polish_16 : decode cX4_polish 16 = .ok (.bipush 99, 2) := by decide +kernel
theorem dX4_polish_18 : decode cX4_polish 18 = .ok (.aload_n 0, 1) := by decide +kernel
theorem dX4_polish_19 : decode cX4_polish 19 = .ok (.getfield 67, 3) := by decide +kernel
theorem dX4_polish_22 : decode cX4_polish 22 = .ok (.iconst 2, 1) := by decide +kernel
theorem dX4_polish_23 : decode cX4_polish 23 = .ok (.iload_n 2, 1) := by decide +kernel
theorem dX4_polish_24 : decode cX4_polish 24 = .ok (.imul, 1) := by decide +kernel
theorem dX4_polish_25 : decode cX4_polish 25 = .ok (.iadd, 1) := by decide +kernel
theorem dX4_polish_26 : decode cX4_polish 26 = .ok (.invokestatic 64, 3) := by decide +kernel
theorem dX4_polish_29 : decode cX4_polish 29 = .ok (.putfield 67, 3) := by decide +kernel
theorem dX4_polish_32 : decode cX4_polish 32 = .ok (.aload_n 0, 1) := by decide +kernel
theorem dX4_polish_33 : decode cX4_polish 33 = .ok (.dup, 1) := by decide +kernel
theorem dX4_polish_34 : decode cX4_polish 34 = .ok (.getfield 70, 3) := by decide +kernel
theorem dX4_polish_37 : decode cX4_polish 37 = .ok (.iload_n 1, 1) := by decide +kernel
theorem dX4_polish_38 : decode cX4_polish 38 = .ok (.iload_n 2, 1) := by decide +kernel
theorem dX4_polish_39 : decode cX4_polish 39 = .ok (.isub, 1) := by decide +kernel
theorem dX4_polish_40 : decode cX4_polish 40 = .ok (.iadd, 1) := by decide +kernel
theorem dX4_polish_41 : decode cX4_polish 41 = .ok (.putfield 70, 3) := by decide +kernel
theorem dX4_polish_44 : decode cX4_polish 44 = .ok (.aload_n 0, 1) := by decide +kernel
theorem dX4_polish_45 : decode cX4_polish 45 = .ok (.dup, 1) := by decide +kernel
theorem dX4_polish_46 : decode cX4_polish 46 = .ok (.getfield 55, 3) := by decide +kernel
theorem dX4_polish_49 : decode cX4_polish 49 = .ok (.iload_n 1, 1) := by decide +kernel
theorem dX4_polish_50 : decode cX4_polish 50 = .ok (.iadd, 1) := by decide +kernel
theorem dX4_polish_51 : decode cX4_polish 51 = .ok (.putfield 55, 3) := by decide +kernel
theorem dX4_polish_54 : decode cX4_polish 54 = .ok (.return_, 1) := by decide +kernel
theorem dX4_worth_0 : decode cX4_worth 0 = .ok (.aload_n 0, 1) := by decide +kernel
theorem dX4_worth_1 : decode cX4_worth 1 = .ok (.getfield 73, 3) := by decide +kernel
theorem dX4_worth_4 : decode cX4_worth 4 = .ok (.ifCond .eq 7, 3) := by decide +kernel
theorem dX4_worth_7 : decode cX4_worth 7 = .ok (.iconst 5, 1) := by decide +kernel
theorem dX4_worth_8 : decode cX4_worth 8 = .ok (.goto 4, 3) := by decide +kernel
theorem dX4_worth_11 : decode cX4_worth 11 = .ok (.iconst 0, 1) := by decide +kernel
theorem dX4_worth_12 : decode cX4_worth 12 = .ok (.istore_n 1, 1) := by decide +kernel
theorem dX4_worth_13 : decode cX4_worth 13 = .ok (.aload_n 0, 1) := by decide +kernel
theorem dX4_worth_14 : decode cX4_worth 14 = .ok (.getfield 28, 3) := by decide +kernel
theorem dX4_worth_17 : decode cX4_worth 17 = .ok (.ifnull 23, 3) := by decide +kernel
theorem dX4_worth_20 : decode cX4_worth 20 = .ok (.iload_n 1, 1) := by decide +kernel
theorem dX4_worth_21 : decode cX4_worth 21 = .ok (.iconst 2, 1) := by decide +kernel
theorem dX4_worth_22 : decode cX4_worth 22 = .ok (.aload_n 0, 1) := by decide +kernel
theorem dX4_worth_23 : decode cX4_worth 23 = .ok (.getfield 28, 3) := by decide +kernel
theorem dX4_worth_26 : decode cX4_worth 26 = .ok (.getfield 77, 3) := by decide +kernel
theorem dX4_worth_29 : decode cX4_worth 29 = .ok (.imul, 1) := by decide +kernel
theorem dX4_worth_30 : decode cX4_worth 30 = .ok (.aload_n 0, 1) := by decide +kernel
theorem dX4_worth_31 : decode cX4_worth 31 = .ok (.invokevirtual 80, 3) := by decide +kernel
theorem dX4_worth_34 : decode cX4_worth 34 = .ok (.bipush 10, 2) := by decide +kernel
theorem dX4_worth_36 : decode cX4_worth 36 = .ok (.idiv, 1) := by decide +kernel
theorem dX4_worth_37 : decode cX4_worth 37 = .ok (.iadd, 1) := by decide +kernel
theorem dX4_worth_38 : decode cX4_worth 38 = .ok (.iadd, 1) := by decide +kernel
theorem dX4_worth_39 : decode cX4_worth 39 = .ok (.istore_n 1, 1) := by decide +kernel
theorem dX4_worth_40 : decode cX4_worth 40 = .ok (.aload_n 0, 1) := by decide +kernel
theorem dX4_worth_41 : decode cX4_worth 41 = .ok (.getfield 36, 3) := by decide +kernel
theorem dX4_worth_44 : decode cX4_worth 44 = .ok (.ifnull 15, 3) := by decide +kernel
theorem dX4_worth_47 : decode cX4_worth 47 = .ok (.iload_n 1, 1) := by decide +kernel
theorem dX4_worth_48 : decode cX4_worth 48 = .ok (.iconst 2, 1) := by decide +kernel
theorem dX4_worth_49 : decode cX4_worth 49 = .ok (.aload_n 0, 1) := by decide +kernel
theorem dX4_worth_50 : decode cX4_worth 50 = .ok (.getfield 36, 3) := by decide +kernel
theorem dX4_worth_53 : decode cX4_worth 53 = .ok (.getfield 77, 3) := by decide +kernel
theorem dX4_worth_56 : decode cX4_worth 56 = .ok (.imul, 1) := by decide +kernel
theorem dX4_worth_57 : decode cX4_worth 57 = .ok (.iadd, 1) := by decide +kernel
theorem dX4_worth_58 : decode cX4_worth 58 = .ok (.istore_n 1, 1) := by decide +kernel
theorem dX4_worth_59 : decode cX4_worth 59 = .ok (.iload_n 1, 1) := by decide +kernel
theorem dX4_worth_60 : decode cX4_worth 60 = .ok (.aload_n 0, 1) := by decide +kernel
theorem dX4_worth_61 : decode cX4_worth 61 = .ok (.getfield 67, 3) := by decide +kernel
theorem dX4_worth_64 : decode cX4_worth 64 = .ok (.iadd, 1) := by decide +kernel
theorem dX4_worth_65 : decode cX4_worth 65 = .ok (.iconst 3, 1) := by decide +kernel
theorem dX4_worth_66 : decode cX4_worth 66 = .ok (.aload_n 0, 1) := by decide +kernel
theorem dX4_worth_67 : decode cX4_worth 67 = .ok (.getfield 84, 3) := by decide +kernel
theorem dX4_worth_70 : decode cX4_worth 70 = .ok (.aload_n 0, 1) := by decide +kernel
theorem dX4_worth_71 : decode cX4_worth 71 = .ok (.getfield 70, 3) := by decide +kernel
theorem dX4_worth_74 : decode cX4_worth 74 = .ok (.iadd, 1) := by decide +kernel
theorem dX4_worth_75 : decode cX4_worth 75 = .ok (.imul, 1) := by decide +kernel
theorem dX4_worth_76 : decode cX4_worth 76 = .ok (.isub, 1) := by decide +kernel
theorem dX4_worth_77 : decode cX4_worth 77 = .ok (.ireturn, 1) := by decide +kernel
theorem dX5_init_0 : decode cX5_init 0 = .ok (.aload_n 0, 1) := by decide +kernel
theorem dX5_init_1 : decode cX5_init 1 = .ok (.invokespecial 3, 3) := by decide +kernel
theorem dX5_init_4 : decode cX5_init 4 = .ok (.aload_n 0, 1) := by decide +kernel
theorem dX5_init_5 : decode cX5_init 5 = .ok (.bipush 64, 2) := by decide +kernel
theorem dX5_init_7 : decode cX5_init 7 = .ok (.newarray .int, 2) := by decide +kernel
theorem dX5_init_9 : decode cX5_init 9 = .ok (.putfield 9, 3) := by decide +kernel
theorem dX5_init_12 : decode cX5_init 12 = .ok (.aload_n 0, 1) := by decide +kernel
theorem dX5_init_13 : decode cX5_init 13 = .ok (.bipush 8, 2) := by decide +kernel
theorem dX5_init_15 : decode cX5_init 15 = .ok (.newarray .int, 2) := by decide +kernel
theorem dX5_init_17 : decode cX5_init 17 = .ok (.putfield 15, 3) := by decide +kernel
theorem dX5_init_20 : decode cX5_init 20 = .ok (.aload_n 0, 1) := by decide +kernel
theorem dX5_init_21 : decode cX5_init 21 = .ok (.bipush 64, 2) := by decide +kernel
theorem dX5_init_23 : decode cX5_init 23 = .ok (.newarray .boolean, 2) := by decide +kernel
theorem dX5_init_25 : decode cX5_init 25 = .ok (.putfield 18, 3) := by decide +kernel
theorem dX5_init_28 : decode cX5_init 28 = .ok (.aload_n 0, 1) := by decide +kernel
theorem dX5_init_29 : decode cX5_init 29 = .ok (.bipush 64, 2) := by decide +kernel
theorem dX5_init_31 : decode cX5_init 31 = .ok (.newarray .int, 2) := by decide +kernel
theorem dX5_init_33 : decode cX5_init 33 = .ok (.putfield 22, 3) := by decide +kernel
theorem dX5_init_36 : decode cX5_init 36 = .ok (.aload_n 0, 1) := by decide +kernel
theorem dX5_init_37 : decode cX5_init 37 = .ok (.iconst 1, 1) := by decide +kernel
theorem dX5_init_38 : decode cX5_init 38 = .ok (.putfield 25, 3) := by decide +kernel
theorem dX5_init_41 : decode cX5_init 41 = .ok (.aload_n 0, 1) := by decide +kernel
theorem dX5_init_42 : decode cX5_init 42 = .ok (.bipush 64, 2) := by decide +kernel
theorem dX5_init_44 : decode cX5_init 44 = .ok (.putfield 29, 3) := by decide +kernel
theorem dX5_init_47 : decode cX5_init 47 = .ok (.return_, 1) := by decide +kernel
theorem dX5_fieldOf_0 : decode cX5_fieldOf 0 = .ok (.iload_n 1, 1) := by decide +kernel
theorem dX5_fieldOf_1 : decode cX5_fieldOf 1 = .ok (.ifCond .lt 18, 3) := by decide +kernel
theorem dX5_fieldOf_4 : decode cX5_fieldOf 4 = .ok (.iload_n 1, 1) := by decide +kernel
theorem dX5_fieldOf_5 : decode cX5_fieldOf 5 = .ok (.bipush 64, 2) := by decide +kernel
theorem dX5_fieldOf_7 : decode cX5_fieldOf 7 = .ok (.if_icmp .ge 12, 3) := by decide +kernel
theorem dX5_fieldOf_10 : decode cX5_fieldOf 10 = .ok (.aload_n 0, 1) := by decide +kernel
theorem dX5_fieldOf_11 : decode cX5_fieldOf 11 = .ok (.getfield 9, 3) := by decide +kernel
theorem dX5_fieldOf_14 : decode cX5_fieldOf 14 = .ok (.iload_n 1, 1) := by decide +kernel
theorem dX5_fieldOf_15 : decode cX5_fieldOf 15 = .ok (.iaload, 1) := by decide +kernel
theorem dX5_fieldOf_16 : decode cX5_fieldOf 16 = .ok (.goto 4, 3) := by decide +kernel
theorem dX5_fieldOf_19 : decode cX5_fieldOf 19 = .ok (.iconst 0, 1) := by decide +kernel
theorem dX5_fieldOf_20 : decode cX5_fieldOf 20 = .ok (.ireturn, 1) := by decide +kernel
theorem dX5_paint_0 : decode cX5_paint 0 = .ok (.iconst 0, 1) := by decide +kernel
theorem dX5_paint_1 : decode cX5_paint 1 = .ok (.istore 5, 2) := by decide +kernel
theorem dX5_paint_3 : decode cX5_paint 3 = .ok (.iload 5, 2) := by decide +kernel
theorem dX5_paint_5 : decode cX5_paint 5 = .ok (.iload_n 3, 1) := by decide +kernel
theorem dX5_paint_6 : decode cX5_paint 6 = .ok (.if_icmp .ge 41, 3) := by decide +kernel
theorem dX5_paint_9 : decode cX5_paint 9 = .ok (.iload_n 1, 1) := by decide +kernel
theorem dX5_paint_10 : decode cX5_paint 10 = .ok (.bipush 8, 2) := by decide +kernel
theorem dX5_paint_12 : decode cX5_paint 12 = .ok (.imul, 1) := by decide +kernel
theorem dX5_paint_13 : decode cX5_paint 13 = .ok (.iload_n 2, 1) := by decide +kernel
theorem dX5_paint_14 : decode cX5_paint 14 = .ok (.iadd, 1) := by decide +kernel
theorem dX5_paint_15 : decode cX5_paint 15 = .ok (.iload 5, 2) := by decide +kernel
theorem dX5_paint_17 : decode cX5_paint 17 = .ok (.iadd, 1) := by decide +kernel
theorem dX5_paint_18 : decode cX5_paint 18 = .ok (.istore 6, 2) := by decide +kernel
theorem dX5_paint_20 : decode cX5_paint 20 = .ok (.iload 6, 2) := by decide +kernel
theorem dX5_paint_22 : decode cX5_paint 22 = .ok (.ifCond .lt 19, 3) := by decide +kernel
theorem dX5_paint_25 : decode cX5_paint 25 = .ok (.iload 6, 2) := by decide +kernel
theorem dX5_paint_27 : decode cX5_paint 27 = .ok (.bipush 64, 2) := by decide +kernel
theorem dX5_paint_29 : decode cX5_paint 29 = .ok (.if_icmp .ge 12, 3) := by decide +kernel
theorem dX5_paint_32 : decode cX5_paint 32 = .ok (.aload_n 0, 1) := by decide +kernel
theorem dX5_paint_33 : decode cX5_paint 33 = .ok (.getfield 9, 3) := by decide +kernel
theorem dX5_paint_36 : decode cX5_paint 36 = .ok (.iload 6, 2) := by decide +kernel
theorem dX5_paint_38 : decode cX5_paint 38 = .ok (.iload 4, 2) := by decide +kernel
theorem dX5_paint_40 : decode cX5_paint 40 = .ok (.iastore, 1) := by decide +kernel
theorem dX5_paint_41 : decode cX5_paint 41 = .ok (.iinc 5 1, 3) := by decide +kernel
theorem dX5_paint_44 : decode cX5_paint 44 = .ok (.goto (-41), 3) := by decide +kernel
theorem dX5_paint_47 : decode cX5_paint 47 = .ok (.aload_n 0, 1) := by decide +kernel
theorem dX5_paint_48 : decode cX5_paint 48 = .ok (.invokevirtual 32, 3) := by decide +kernel
theorem dX5_paint_51 : decode cX5_paint 51 = .ok (.return_, 1) := by decide +kernel
theorem dX5_countPieces_0 : decode cX5_countPieces 0 = .ok (.iconst 0, 1) := by decide +kernel
theorem dX5_countPieces_1 : decode cX5_countPieces 1 = .ok (.istore_n 1, 1) := by decide +kernel
theorem dX5_countPieces_2 : decode cX5_countPieces 2 = .ok (.iload_n 1, 1) := by decide +kernel
theorem dX5_countPieces_3 : decode cX5_countPieces 3 = .ok (.bipush 64, 2) := by decide +kernel
theorem dX5_countPieces_5 : decode cX5_countPieces 5 = .ok (.if_icmp .ge 16, 3) := by decide +kernel
theorem dX5_countPieces_8 : decode cX5_countPieces 8 = .ok (.aload_n 0, 1) := by decide +kernel
theorem dX5_countPieces_9 : decode cX5_countPieces 9 = .ok (.getfield 18, 3) := by decide +kernel
theorem dX5_countPieces_12 : decode cX5_countPieces 12 = .ok (.iload_n 1, 1) := by decide +kernel
theorem dX5_countPieces_13 : decode cX5_countPieces 13 = .ok (.iconst 0, 1) := by decide +kernel
theorem dX5_countPieces_14 : decode cX5_countPieces 14 = .ok (.bastore, 1) := by decide +kernel
theorem dX5_countPieces_15 : decode cX5_countPieces 15 = .ok (.iinc 1 1, 3) := by decide +kernel
theorem dX5_countPieces_18 : decode cX5_countPieces 18 = .ok (.goto (-16), 3) := by decide +kernel
theorem dX5_countPieces_21 : decode cX5_countPieces 21 = .ok (.aload_n 0, 1) := by decide +kernel
theorem dX5_countPieces_22 : decode cX5_countPieces 22 = .ok (.iconst 0, 1) := by decide +kernel
theorem dX5_countPieces_23 : decode cX5_countPieces 23 = .ok (.putfield 25, 3) := by decide +kernel
theorem dX5_countPieces_26 : decode cX5_countPieces 26 = .ok (.aload_n 0, 1) := by decide +kernel
theorem dX5_countPieces_27 : decode cX5_countPieces 27 = .ok (.iconst 0, 1) := by decide +kernel
theorem dX5_countPieces_28 : decode cX5_countPieces 28 = .ok (.putfield 35, 3) := by decide +kernel
theorem dX5_countPieces_31 : decode cX5_countPieces 31 = .ok (.aload_n 0, 1) := by decide +kernel
theorem dX5_countPieces_32 : decode cX5_countPieces 32 = .ok (.iconst 0, 1) := by decide +kernel
theorem dX5_countPieces_33 : decode cX5_countPieces 33 = .ok (.putfield 29, 3) := by decide +kernel
theorem dX5_countPieces_36 : decode cX5_countPieces 36 = .ok (.iconst 0, 1) := by decide +kernel
theorem dX5_countPieces_37 : decode cX5_countPieces 37 = .ok (.istore_n 1, 1) := by decide +kernel
theorem dX5_countPieces_38 : decode cX5_countPieces 38 = .ok (.iload_n 1, 1) := by decide +kernel
theorem dX5_countPieces_39 : decode cX5_countPieces 39 = .ok (.bipush 64, 2) := by decide +kernel
theorem dX5_countPieces_41 : decode cX5_countPieces 41 = .ok (.if_icmp .ge 66, 3) := by decide +kernel
theorem dX5_countPieces_44 : decode cX5_countPieces 44 = .ok (.aload_n 0, 1) := by decide +kernel
theorem dX5_countPieces_45 : decode cX5_countPieces 45 = .ok (.getfield 18, 3) := by decide +kernel
theorem dX5_countPieces_48 : decode cX5_countPieces 48 = .ok (.iload_n 1, 1) := by decide +kernel
theorem dX5_countPieces_49 : decode cX5_countPieces 49 = .ok (.baload, 1) := by decide +kernel
theorem dX5_countPieces_50 : decode cX5_countPieces 50 = .ok (.ifCond .ne 51, 3) := by decide +kernel
theorem dX5_countPieces_53 : decode cX5_countPieces 53 = .ok (.aload_n 0, 1) := by decide +kernel
theorem dX5_countPieces_54 : decode cX5_countPieces 54 = .ok (.dup, 1) := by decide +kernel
theorem dX5_countPieces_55 : decode cX5_countPieces 55 = .ok (.getfield 25, 3) := by decide +kernel
theorem dX5_countPieces_58 : decode cX5_countPieces 58 = .ok (.iconst 1, 1) := by decide +kernel
theorem dX5_countPieces_59 : decode cX5_countPieces 59 = .ok (.iadd, 1) := by decide +kernel
theorem dX5_countPieces_60 : decode cX5_countPieces 60 = .ok (.putfield 25, 3) := by decide +kernel
theorem dX5_countPieces_63 : decode cX5_countPieces 63 = .ok (.aload_n 0, 1) := by decide +kernel
theorem dX5_countPieces_64 : decode cX5_countPieces 64 = .ok (.iload_n 1, 1) := by decide +kernel
theorem dX5_countPieces_65 : decode cX5_countPieces 65 = .ok (.invokevirtual 38, 3) := by decide +kernel
theorem dX5_countPieces_68 : decode cX5_countPieces 68 = .ok (.istore_n 2, 1) := by decide +kernel
theorem dX5_countPieces_69 : decode cX5_countPieces 69 = .ok (.aload_n 0, 1) := by decide +kernel
theorem dX5_countPieces_70 : decode cX5_countPieces 70 = .ok (.dup, 1) := by decide +kernel
theorem dX5_countPieces_71 : decode cX5_countPieces 71 = .ok (.getfield 29, 3) := by decide +kernel
theorem dX5_countPieces_74 : decode cX5_countPieces 74 = .ok (.iload_n 2, 1) := by decide +kernel
theorem dX5_countPieces_75 : decode cX5_countPieces 75 = .ok (.iadd, 1) := by decide +kernel
theorem dX5_countPieces_76 : decode cX5_countPieces 76 = .ok (.putfield 29, 3) := by decide +kernel
theorem dX5_countPieces_79 : decode cX5_countPieces 79 = .ok (.aload_n 0, 1) := by decide +kernel
theorem dX5_countPieces_80 : decode cX5_countPieces 80 = .ok (.dup, 1) := by decide +kernel
theorem dX5_countPieces_81 : decode cX5_countPieces 81 = .ok (.getfield 35, 3) := by decide +kernel
theorem dX5_countPieces_84 : decode cX5_countPieces 84 = .ok (.aload_n 0, 1) := by decide +kernel
theorem dX5_countPieces_85 : decode cX5_countPieces 85 = .ok (.iload_n 2, 1) := by decide +kernel
theorem dX5_countPieces_86 : decode cX5_countPieces 86 = .ok (.invokevirtual 42, 3) := by decide +kernel
theorem dX5_countPieces_89 : decode cX5_countPieces 89 = .ok (.ifCond .eq 7, 3) := by decide +kernel
theorem dX5_countPieces_92 : decode cX5_countPieces 92 = .ok (.iconst 1, 1) := by decide +kernel
theorem dX5_countPieces_93 : decode cX5_countPieces 93 = .ok (.goto 4, 3) := by decide +kernel
theorem dX5_countPieces_96 : decode cX5_countPieces 96 = .ok (.iconst 0, 1) := by decide +kernel
theorem dX5_countPieces_97 : decode cX5_countPieces 97 = .ok (.iadd, 1) := by decide +kernel
theorem dX5_countPieces_98 : decode cX5_countPieces 98 = .ok (.putfield 35, 3) := by decide +kernel
theorem dX5_countPieces_101 : decode cX5_countPieces 101 = .ok (.iinc 1 1, 3) := by decide +kernel
theorem dX5_countPieces_104 : decode cX5_countPieces 104 = .ok (.goto (-66), 3) := by decide +kernel
theorem dX5_countPieces_107 : decode cX5_countPieces 107 = .ok (.return_, 1) := by decide +kernel
theorem dX5_gatherPiece_0 : decode cX5_gatherPiece 0 = .ok (.aload_n 0, 1) := by decide +kernel
theorem dX5_gatherPiece_1 : decode cX5_gatherPiece 1 = .ok (.iload_n 1, 1) := by decide +kernel
theorem dX5_gatherPiece_2 : decode cX5_gatherPiece 2 = .ok (.iconst 0, 1) := by decide +kernel
theorem dX5_gatherPiece_3 : decode cX5_gatherPiece 3 = .ok (.invokevirtual 46, 3) := by decide +kernel
theorem dX5_gatherPiece_6 : decode cX5_gatherPiece 6 = .ok (.istore_n 2, 1) := by decide +kernel
theorem dX5_gatherPiece_7 : decode cX5_gatherPiece 7 = .ok (.iconst 0, 1) := by decide +kernel
theorem dX5_gatherPiece_8 : decode cX5_gatherPiece 8 = .ok (.istore_n 3, 1) := by decide +kernel
theorem dX5_gatherPiece_9 : decode cX5_gatherPiece 9 = .ok (.iload_n 3, 1) := by decide +kernel
theorem dX5_gatherPiece_10 : decode cX5_gatherPiece 10 = .ok (.iload_n 2, 1) := by decide +kernel
theorem dX5_gatherPiece_11 : decode cX5_gatherPiece 11 = .ok (.if_icmp .ge 70, 3) := by decide +kernel
theorem dX5_gatherPiece_14 : decode cX5_gatherPiece 14 = .ok (.iload_n 3, 1) := by decide +kernel
theorem dX5_gatherPiece_15 : decode cX5_gatherPiece 15 = .ok (.bipush 64, 2) := by decide +kernel
theorem dX5_gatherPiece_17 : decode cX5_gatherPiece 17 = .ok (.if_icmp .ge 64, 3) := by decide +kernel
theorem dX5_gatherPiece_20 : decode cX5_gatherPiece 20 = .ok (.iconst 0, 1) := by decide +kernel
theorem dX5_gatherPiece_21 : decode cX5_gatherPiece 21 = .ok (.istore 4, 2) := by decide +kernel
theorem dX5_gatherPiece_23 : decode cX5_gatherPiece 23 = .ok (.iload 4, 2) := by decide +kernel
theorem dX5_gatherPiece_25 : decode cX5_gatherPiece 25 = .ok (.iconst 4, 1) := by decide +kernel
theorem dX5_gatherPiece_26 : decode cX5_gatherPiece 26 = .ok (.if_icmp .ge 49, 3) := by decide +kernel
theorem dX5_gatherPiece_29 : decode cX5_gatherPiece 29 = .ok (.aload_n 0, 1) := by decide +kernel
theorem dX5_gatherPiece_30 : decode cX5_gatherPiece 30 = .ok (.getfield 22, 3) := by decide +kernel
theorem dX5_gatherPiece_33 : decode cX5_gatherPiece 33 = .ok (.iload_n 3, 1) := by decide +kernel
theorem dX5_gatherPiece_34 : decode cX5_gatherPiece 34 = .ok (.iaload, 1) := by decide +kernel
theorem dX5_gatherPiece_35 : decode cX5_gatherPiece 35 = .ok (.iload 4, 2) := by decide +kernel
theorem dX5_gatherPiece_37 : decode cX5_gatherPiece 37 = .ok (.invokestatic 50, 3) := by decide +kernel
theorem dX5_gatherPiece_40 : decode cX5_gatherPiece 40 = .ok (.istore 5, 2) := by decide +kernel
theorem dX5_gatherPiece_42 : decode cX5_gatherPiece 42 = .ok (.iload 5, 2) := by decide +kernel
theorem dX5_gatherPiece_44 : decode cX5_gatherPiece 44 = .ok (.ifCond .lt 25, 3) := by decide +kernel
theorem dX5_gatherPiece_47 : decode cX5_gatherPiece 47 = .ok (.aload_n 0, 1) := by decide +kernel
theorem dX5_gatherPiece_48 : decode cX5_gatherPiece 48 = .ok (.iload 5, 2) := by decide +kernel
theorem dX5_gatherPiece_50 : decode cX5_gatherPiece 50 = .ok (.invokevirtual 53, 3) := by decide +kernel
theorem dX5_gatherPiece_53 : decode cX5_gatherPiece 53 = .ok (.aload_n 0, 1) := by decide +kernel
theorem dX5_gatherPiece_54 : decode cX5_gatherPiece 54 = .ok (.iload_n 1, 1) := by decide +kernel
theorem dX5_gatherPiece_55 : decode cX5_gatherPiece 55 = .ok (.invokevirtual 53, 3) := by decide +kernel
theorem dX5_gatherPiece_58 : decode cX5_gatherPiece 58 = .ok (.if_icmp .ne 11, 3) := by decide +kernel
theorem dX5_gatherPiece_61 : decode cX5_gatherPiece 61 = .ok (.aload_n 0, 1) := by decide +kernel
theorem dX5_gatherPiece_62 : decode cX5_gatherPiece 62 = .ok (.iload 5, 2) := by decide +kernel
theorem dX5_gatherPiece_64 : decode cX5_gatherPiece 64 = .ok (.iload_n 2, 1) := by decide +kernel
theorem dX5_gatherPiece_65 : decode cX5_gatherPiece 65 = .ok (.invokevirtual 46, 3) := by decide +kernel
theorem dX5_gatherPiece_68 : decode cX5_gatherPiece 68 = .ok (.istore_n 2, 1) := by decide +kernel
theorem dX5_gatherPiece_69 : decode cX5_gatherPiece 69 = .ok (.iinc 4 1, 3) := by decide +kernel
theorem dX5_gatherPiece_72 : decode cX5_gatherPiece 72 = .ok (.goto (-49), 3) := by decide +kernel
theorem dX5_gatherPiece_75 : decode cX5_gatherPiece 75 = .ok (.iinc 3 1, 3) := by decide +kernel
theorem dX5_gatherPiece_78 : decode cX5_gatherPiece 78 = .ok (.goto (-69), 3) := by decide +kernel
theorem dX5_gatherPiece_81 : decode cX5_gatherPiece 81 = .ok (.iload_n 2, 1) := by decide +kernel
theorem dX5_gatherPiece_82 : decode cX5_gatherPiece 82 = .ok (.ireturn, 1) := by decide +kernel
theorem dX5_enqueue_0 : decode cX5_enqueue 0 = .ok (.iload_n 1, 1) := by decide +kernel
theorem dX5_enqueue_1 : decode cX5_enqueue 1 = .ok (.ifCond .lt 23, 3) := by decide +kernel
theorem dX5_enqueue_4 : decode cX5_enqueue 4 = .ok (.iload_n 1, 1) := by decide +kernel
theorem dX5_enqueue_5 : decode cX5_enqueue 5 = .ok (.bipush 64, 2) := by decide +kernel
theorem dX5_enqueue_7 : decode cX5_enqueue 7 = .ok (.if_icmp .ge 17, 3) := by decide +kernel
theorem dX5_enqueue_10 : decode cX5_enqueue 10 = .ok (.iload_n 2, 1) := by decide +kernel
theorem dX5_enqueue_11 : decode cX5_enqueue 11 = .ok (.ifCond .lt 13, 3) := by decide +kernel
theorem dX5_enqueue_14 : decode cX5_enqueue 14 = .ok (.iload_n 2, 1) := by decide +kernel
theorem dX5_enqueue_15 : decode cX5_enqueue 15 = .ok (.bipush 64, 2) := by decide +kernel
theorem dX5_enqueue_17 : decode cX5_enqueue 17 = .ok (.if_icmp .ge 7, 3) := by decide +kernel
theorem dX5_enqueue_20 : decode cX5_enqueue 20 = .ok (.iconst 1, 1) := by decide +kernel
theorem dX5_enqueue_21 : decode cX5_enqueue 21 = .ok (.goto 4, 3) := by decide +kernel
theorem dX5_enqueue_24 : decode cX5_enqueue 24 = .ok (.iconst 0, 1) := by decide +kernel
theorem dX5_enqueue_25 : decode cX5_enqueue 25 = .ok (.istore_n 3, 1) := by decide +kernel
theorem dX5_enqueue_26 : decode cX5_enqueue 26 = .ok (.iload_n 3, 1) := by decide +kernel
theorem dX5_enqueue_27 : decode cX5_enqueue 27 = .ok (.ifCond .eq 12, 3) := by decide +kernel
theorem dX5_enqueue_30 : decode cX5_enqueue 30 = .ok (.aload_n 0, 1) := by decide +kernel
theorem dX5_enqueue_31 : decode cX5_enqueue 31 = .ok (.getfield 18, 3) := by decide +kernel
theorem dX5_enqueue_34 : decode cX5_enqueue 34 = .ok (.iload_n 1, 1) := by decide +kernel
theorem dX5_enqueue_35 : decode cX5_enqueue 35 = .ok (.baload, 1) := by decide +kernel
theorem dX5_enqueue_36 : decode cX5_enqueue 36 = .ok (.ifCond .eq 5, 3) := by decide +kernel
theorem dX5_enqueue_39 : decode cX5_enqueue 39 = .ok (.iload_n 2, 1) := by decide +kernel
theorem dX5_enqueue_40 : decode cX5_enqueue 40 = .ok (.ireturn, 1) := by decide +kernel
theorem dX5_enqueue_41 : decode cX5_enqueue 41 = .ok (.aload_n 0, 1) := by decide +kernel
theorem dX5_enqueue_42 : decode cX5_enqueue 42 = .ok (.getfield 18, 3) := by decide +kernel
theorem dX5_enqueue_45 : decode cX5_enqueue 45 = .ok (.iload_n 1, 1) := by decide +kernel
theorem dX5_enqueue_46 : decode cX5_enqueue 46 = .ok (.iconst 1, 1) := by decide +kernel
theorem dX5_enqueue_47 : decode cX5_enqueue 47 = .ok (.bastore, 1) := by decide +kernel
theorem dX5_enqueue_48 : decode cX5_enqueue 48 = .ok (.aload_n 0, 1) := by decide +kernel
theorem dX5_enqueue_49 : decode cX5_enqueue 49 = .ok (.getfield 22, 3) := by decide +kernel
theorem dX5_enqueue_52 : decode cX5_enqueue 52 = .ok (.iload_n 2, 1) := by decide +kernel
theorem dX5_enqueue_53 : decode cX5_enqueue 53 = .ok (.iload_n 1, 1) := by decide +kernel
theorem dX5_enqueue_54 : decode cX5_enqueue 54 = .ok (.iastore, 1) := by decide +kernel
theorem dX5_enqueue_55 : decode cX5_enqueue 55 = .ok (.iload_n 2, 1) := by decide +kernel
theorem dX5_enqueue_56 : decode cX5_enqueue 56 = .ok (.iconst 1, 1) := by decide +kernel
theorem dX5_enqueue_57 : decode cX5_enqueue 57 = .ok (.iadd, 1) := by decide +kernel
theorem dX5_enqueue_58 : decode cX5_enqueue 58 = .ok (.ireturn, 1) := by decide +kernel
theorem dX5_isIsland_0 : decode cX5_isIsland 0 = .ok (.iconst (-1), 1) := by decide +kernel
theorem dX5_isIsland_1 : decode cX5_isIsland 1 = .ok (.istore_n 2, 1) := by decide +kernel
theorem dX5_isIsland_2 : decode cX5_isIsland 2 = .ok (.iconst 0, 1) := by decide +kernel
theorem dX5_isIsland_3 : decode cX5_isIsland 3 = .ok (.istore_n 3, 1) := by decide +kernel
theorem dX5_isIsland_4 : decode cX5_isIsland 4 = .ok (.iload_n 3, 1) := by decide +kernel
theorem dX5_isIsland_5 : decode cX5_isIsland 5 = .ok (.iload_n 1, 1) := by decide +kernel
theorem dX5_isIsland_6 : decode cX5_isIsland 6 = .ok (.if_icmp .ge 103, 3) := by decide +kernel
theorem dX5_isIsland_9 : decode cX5_isIsland 9 = .ok (.iload_n 3, 1) := by decide +kernel
theorem dX5_isIsland_10 : decode cX5_isIsland 10 = .ok (.bipush 64, 2) := by decide +kernel
theorem dX5_isIsland_12 : decode cX5_isIsland 12 = .ok (.if_icmp .ge 97, 3) := by decide +kernel
theorem dX5_isIsland_15 : decode cX5_isIsland 15 = .ok (.aload_n 0, 1) := by decide +kernel
theorem dX5_isIsland_16 : decode cX5_isIsland 16 = .ok (.aload_n 0, 1) := by decide +kernel
theorem dX5_isIsland_17 : decode cX5_isIsland 17 = .ok (.getfield 22, 3) := by decide +kernel
theorem dX5_isIsland_20 : decode cX5_isIsland 20 = .ok (.iload_n 3, 1) := by decide +kernel
theorem dX5_isIsland_21 : decode cX5_isIsland 21 = .ok (.iaload, 1) := by decide +kernel
theorem dX5_isIsland_22 : decode cX5_isIsland 22 = .ok (.invokevirtual 53, 3) := by decide +kernel
theorem dX5_isIsland_25 : decode cX5_isIsland 25 = .ok (.istore 4, 2) := by decide +kernel
theorem dX5_isIsland_27 : decode cX5_isIsland 27 = .ok (.iconst 0, 1) := by decide +kernel
theorem dX5_isIsland_28 : decode cX5_isIsland 28 = .ok (.istore 5, 2) := by decide +kernel
theorem dX5_isIsland_30 : decode cX5_isIsland 30 = .ok (.iload 5, 2) := by decide +kernel
theorem dX5_isIsland_32 : decode cX5_isIsland 32 = .ok (.iconst 4, 1) := by decide +kernel
theorem dX5_isIsland_33 : decode cX5_isIsland 33 = .ok (.if_icmp .ge 70, 3) := by decide +kernel
theorem dX5_isIsland_36 : decode cX5_isIsland 36 = .ok (.aload_n 0, 1) := by decide +kernel
theorem dX5_isIsland_37 : decode cX5_isIsland 37 = .ok (.getfield 22, 3) := by decide +kernel
theorem dX5_isIsland_40 : decode cX5_isIsland 40 = .ok (.iload_n 3, 1) := by decide +kernel
theorem dX5_isIsland_41 : decode cX5_isIsland 41 = .ok (.iaload, 1) := by decide +kernel
theorem dX5_isIsland_42 : decode cX5_isIsland 42 = .ok (.iload 5, 2) := by decide +kernel
theorem dX5_isIsland_44 : decode cX5_isIsland 44 = .ok (.invokestatic 50, 3) := by decide +kernel
theorem dX5_isIsland_47 : decode cX5_isIsland 47 = .ok (.istore 6, 2) := by decide +kernel
theorem dX5_isIsland_49 : decode cX5_isIsland 49 = .ok (.iload 6, 2) := by decide +kernel
theorem dX5_isIsland_51 : decode cX5_isIsland 51 = .ok (.ifCond .ge 5, 3) := by decide +kernel
theorem dX5_isIsland_54 : decode cX5_isIsland 54 = .ok (.iconst 0, 1) := by decide +kernel
theorem dX5_isIsland_55 : decode cX5_isIsland 55 = .ok (.ireturn, 1) := by decide +kernel
theorem dX5_isIsland_56 : decode cX5_isIsland 56 = .ok (.aload_n 0, 1) := by decide +kernel
theorem dX5_isIsland_57 : decode cX5_isIsland 57 = .ok (.iload 6, 2) := by decide +kernel
theorem dX5_isIsland_59 : decode cX5_isIsland 59 = .ok (.invokevirtual 53, 3) := by decide +kernel
theorem dX5_isIsland_62 : decode cX5_isIsland 62 = .ok (.istore 7, 2) := by decide +kernel
theorem dX5_isIsland_64 : decode cX5_isIsland 64 = .ok (.iload 7, 2) := by decide +kernel
theorem dX5_isIsland_66 : decode cX5_isIsland 66 = .ok (.iload 4, 2) := by decide +kernel
theorem dX5_isIsland_68 : decode cX5_isIsland 68 = .ok (.if_icmp .eq 15, 3) := by decide +kernel
theorem dX5_isIsland_71 : decode cX5_isIsland 71 = .ok (.iload_n 2, 1) := by decide +kernel
theorem dX5_isIsland_72 : decode cX5_isIsland 72 = .ok (.ifCond .lt 11, 3) := by decide +kernel
theorem dX5_isIsland_75 : decode cX5_isIsland 75 = .ok (.iload 7, 2) := by decide +kernel
theorem dX5_isIsland_77 : decode cX5_isIsland 77 = .ok (.iload_n 2, 1) := by decide +kernel
theorem dX5_isIsland_78 : decode cX5_isIsland 78 = .ok (.if_icmp .eq 5, 3) := by decide +kernel
theorem dX5_isIsland_81 : decode cX5_isIsland 81 = .ok (.iconst 0, 1) := by decide +kernel
theorem dX5_isIsland_82 : decode cX5_isIsland 82 = .ok (.ireturn, 1) := by decide +kernel
theorem dX5_isIsland_83 : decode cX5_isIsland 83 = .ok (.iload 7, 2) := by decide +kernel
theorem dX5_isIsland_85 : decode cX5_isIsland 85 = .ok (.iload 4, 2) := by decide +kernel
theorem dX5_isIsland_87 : decode cX5_isIsland 87 = .ok (.if_icmp .eq 8, 3) := by decide +kernel
theorem dX5_isIsland_90 : decode cX5_isIsland 90 = .ok (.iload 7, 2) := by decide +kernel
theorem dX5_isIsland_92 : decode cX5_isIsland 92 = .ok (.goto 4, 3) := by decide +kernel
theorem dX5_isIsland_95 : decode cX5_isIsland 95 = .ok (.iload_n 2, 1) := by decide +kernel
theorem dX5_isIsland_96 : decode cX5_isIsland 96 = .ok (.istore_n 2, 1) := by decide +kernel
theorem dX5_isIsland_97 : decode cX5_isIsland 97 = .ok (.iinc 5 1, 3) := by decide +kernel
theorem dX5_isIsland_100 : decode cX5_isIsland 100 = .ok (.goto (-70), 3) := by decide +kernel
theorem dX5_isIsland_103 : decode cX5_isIsland 103 = .ok (.iinc 3 1, 3) := by decide +kernel
theorem dX5_isIsland_106 : decode cX5_isIsland 106 = .ok (.goto (-102), 3) := by decide +kernel
theorem dX5_isIsland_109 : decode cX5_isIsland 109 = .ok (.iconst 1, 1) := by decide +kernel
theorem dX5_isIsland_110 : decode cX5_isIsland 110 = .ok (.ireturn, 1) := by decide +kernel
theorem dX5_darken_0 : decode cX5_darken 0 = .ok (.iload_n 1, 1) := by decide +kernel
theorem dX5_darken_1 : decode cX5_darken 1 = .ok (.ifCond .lt 9, 3) := by decide +kernel
theorem dX5_darken_4 : decode cX5_darken 4 = .ok (.iload_n 1, 1) := by decide +kernel
theorem dX5_darken_5 : decode cX5_darken 5 = .ok (.bipush 8, 2) := by decide +kernel
theorem dX5_darken_7 : decode cX5_darken 7 = .ok (.if_icmp .lt 5, 3) := by decide +kernel
theorem dX5_darken_10 : decode cX5_darken 10 = .ok (.iconst 0, 1) := by decide +kernel
theorem dX5_darken_11 : decode cX5_darken 11 = .ok (.ireturn, 1) := by decide +kernel
theorem dX5_darken_12 : decode cX5_darken 12 = .ok (.aload_n 0, 1) := by decide +kernel
theorem dX5_darken_13 : decode cX5_darken 13 = .ok (.getfield 15, 3) := by decide +kernel
theorem dX5_darken_16 : decode cX5_darken 16 = .ok (.iload_n 1, 1) := by decide +kernel
theorem dX5_darken_17 : decode cX5_darken 17 = .ok (.bipush 99, 2) := by decide +kernel
theorem dX5_darken_19 : decode cX5_darken 19 = .ok (.aload_n 0, 1) := by decide +kernel
theorem dX5_darken_20 : decode cX5_darken 20 = .ok (.getfield 15, 3) := by decide +kernel
theorem dX5_darken_23 : decode cX5_darken 23 = .ok (.iload_n 1, 1) := by decide +kernel
theorem dX5_darken_24 : decode cX5_darken 24 = .ok (.iaload, 1) := by decide +kernel
theorem dX5_darken_25 : decode cX5_darken 25 = .ok (.iload_n 2, 1) := by decide +kernel
theorem dX5_darken_26 : decode cX5_darken 26 = .ok (.iadd, 1) := by decide +kernel
theorem dX5_darken_27 : decode cX5_darken 27 = .ok (.invokestatic 56, 3) := by decide +kernel
theorem dX5_darken_30 : decode cX5_darken 30 = .ok (.iastore, 1) := by decide +kernel
theorem dX5_darken_31 : decode cX5_darken 31 = .ok (.aload_n 0, 1) := by decide +kernel
theorem dX5_darken_32 : decode cX5_darken 32 = .ok (.getfield 15, 3) := by decide +kernel
theorem dX5_darken_35 : decode cX5_darken 35 = .ok (.iload_n 1, 1) := by decide +kernel
theorem dX5_darken_36 : decode cX5_darken 36 = .ok (.iaload, 1) := by decide +kernel
theorem dX5_darken_37 : decode cX5_darken 37 = .ok (.ireturn, 1) := by decide +kernel
theorem dX5_countBurnt_0 : decode cX5_countBurnt 0 = .ok (.iconst 0, 1) := by decide +kernel
theorem dX5_countBurnt_1 : decode cX5_countBurnt 1 = .ok (.istore_n 1, 1) := by decide +kernel
theorem dX5_countBurnt_2 : decode cX5_countBurnt 2 = .ok (.iconst 0, 1) := by decide +kernel
theorem dX5_countBurnt_3 : decode cX5_countBurnt 3 = .ok (.istore_n 2, 1) := by decide +kernel
theorem dX5_countBurnt_4 : decode cX5_countBurnt 4 = .ok (.iload_n 2, 1) := by decide +kernel
theorem dX5_countBurnt_5 : decode cX5_countBurnt 5 = .ok (.bipush 8, 2) := by decide +kernel
theorem dX5_countBurnt_7 : decode cX5_countBurnt 7 = .ok (.if_icmp .ge 23, 3) := by decide +kernel
theorem dX5_countBurnt_10 : decode cX5_countBurnt 10 = .ok (.aload_n 0, 1) := by decide +kernel
theorem dX5_countBurnt_11 : decode cX5_countBurnt 11 = .ok (.getfield 15, 3) := by decide +kernel
theorem dX5_countBurnt_14 : decode cX5_countBurnt 14 = .ok (.iload_n 2, 1) := by decide +kernel
theorem dX5_countBurnt_15 : decode cX5_countBurnt 15 = .ok (.iaload, 1) := by decide +kernel
theorem dX5_countBurnt_16 : decode cX5_countBurnt 16 = .ok (.bipush 90, 2) := by decide +kernel
theorem dX5_countBurnt_18 : decode cX5_countBurnt 18 = .ok (.if_icmp .le 6, 3) := by decide +kernel
theorem dX5_countBurnt_21 : decode cX5_countBurnt 21 = .ok (.iinc 1 1, 3) := by decide +kernel
theorem dX5_countBurnt_24 : decode cX5_countBurnt 24 = .ok (.iinc 2 1, 3) := by decide +kernel
theorem dX5_countBurnt_27 : decode cX5_countBurnt 27 = .ok (.goto (-23), 3) := by decide +kernel
theorem dX5_countBurnt_30 : decode cX5_countBurnt 30 = .ok (.iload_n 1, 1) := by decide +kernel
theorem dX5_countBurnt_31 : decode cX5_countBurnt 31 = .ok (.ireturn, 1) := by decide +kernel
theorem dX6_init_0 : decode cX6_init 0 = .ok (.aload_n 0, 1) := by decide +kernel
theorem dX6_init_1 : decode cX6_init 1 = .ok (.invokespecial 1, 3) := by decide +kernel
theorem dX6_init_4 : decode cX6_init 4 = .ok (.aload_n 0, 1) := by decide +kernel
theorem dX6_init_5 : decode cX6_init 5 = .ok (.new 7, 3) := by decide +kernel
theorem dX6_init_8 : decode cX6_init 8 = .ok (.dup, 1) := by decide +kernel
theorem dX6_init_9 : decode cX6_init 9 = .ok (.invokespecial 9, 3) := by decide +kernel
theorem dX6_init_12 : decode cX6_init 12 = .ok (.putfield 10, 3) := by decide +kernel
theorem dX6_init_15 : decode cX6_init 15 = .ok (.aload_n 0, 1) := by decide +kernel
theorem dX6_init_16 : decode cX6_init 16 = .ok (.new 7, 3) := by decide +kernel
theorem dX6_init_19 : decode cX6_init 19 = .ok (.dup, 1) := by decide +kernel
theorem dX6_init_20 : decode cX6_init 20 = .ok (.invokespecial 9, 3) := by decide +kernel
theorem dX6_init_23 : decode cX6_init 23 = .ok (.putfield 16, 3) := by decide +kernel
theorem dX6_init_26 : decode cX6_init 26 = .ok (.aload_n 0, 1) := by decide +kernel
theorem dX6_init_27 : decode cX6_init 27 = .ok (.new 7, 3) := by decide +kernel
theorem dX6_init_30 : decode cX6_init 30 = .ok (.dup, 1) := by decide +kernel
theorem dX6_init_31 : decode cX6_init 31 = .ok (.invokespecial 9, 3) := by decide +kernel
theorem dX6_init_34 : decode cX6_init 34 = .ok (.putfield 19, 3) := by decide +kernel
theorem dX6_init_37 : decode cX6_init 37 = .ok (.aload_n 0, 1) := by decide +kernel
theorem dX6_init_38 : decode cX6_init 38 = .ok (.new 7, 3) := by decide +kernel
theorem dX6_init_41 : decode cX6_init 41 = .ok (.dup, 1) := by decide +kernel
theorem dX6_init_42 : decode cX6_init 42 = .ok (.invokespecial 9, 3) := by decide +kernel
theorem dX6_init_45 : decode cX6_init 45 = .ok (.putfield 22, 3) := by decide +kernel
theorem dX6_init_48 : decode cX6_init 48 = .ok (.aload_n 0, 1) := by decide +kernel
theorem dX6_init_49 : decode cX6_init 49 = .ok (.new 7, 3) := by decide +kernel
theorem dX6_init_52 : decode cX6_init 52 = .ok (.dup, 1) := by decide +kernel
theorem dX6_init_53 : decode cX6_init 53 = .ok (.invokespecial 9, 3) := by decide +kernel
theorem dX6_init_56 : decode cX6_init 56 = .ok (.putfield 25, 3) := by decide +kernel
theorem dX6_init_59 : decode cX6_init 59 = .ok (.aload_n 0, 1) := by decide +kernel
theorem dX6_init_60 : decode cX6_init 60 = .ok (.bipush 8, 2) := by decide +kernel
theorem dX6_init_62 : decode cX6_init 62 = .ok (.putfield 28, 3) := by decide +kernel
theorem dX6_init_65 : decode cX6_init 65 = .ok (.return_, 1) := by decide +kernel
theorem dX6_log_0 : decode cX6_log 0 = .ok (.ldc 32, 2) := by decide +kernel
theorem dX6_log_2 : decode cX6_log 2 = .ok (.iload_n 1, 1) := by decide +kernel
theorem dX6_log_3 : decode cX6_log 3 = .ok (.invokestatic 34, 3) := by decide +kernel
theorem dX6_log_6 : decode cX6_log 6 = .ok (.ifCond .eq 17, 3) := by decide +kernel
theorem dX6_log_9 : decode cX6_log 9 = .ok (.ldc 38, 2) := by decide +kernel
theorem dX6_log_11 : decode cX6_log 11 = .ok (.iload 4, 2) := by decide +kernel
theorem dX6_log_13 : decode cX6_log 13 = .ok (.invokestatic 34, 3) := by decide +kernel
theorem dX6_log_16 : decode cX6_log 16 = .ok (.ifCond .eq 7, 3) := by decide +kernel
theorem dX6_log_19 : decode cX6_log 19 = .ok (.iconst 1, 1) := by decide +kernel
theorem dX6_log_20 : decode cX6_log 20 = .ok (.goto 4, 3) := by decide +kernel
theorem dX6_log_23 : decode cX6_log 23 = .ok (.iconst 0, 1) := by decide +kernel
theorem dX6_log_24 : decode cX6_log 24 = .ok (.istore 5, 2) := by decide +kernel
theorem dX6_log_26 : decode cX6_log 26 = .ok (.iload 5, 2) := by decide +kernel
theorem dX6_log_28 : decode cX6_log 28 = .ok (.ifCond .eq 25, 3) := by decide +kernel
theorem dX6_log_31 : decode cX6_log 31 = .ok (.iload_n 2, 1) := by decide +kernel
theorem dX6_log_32 : decode cX6_log 32 = .ok (.bipush 100, 2) := by decide +kernel
theorem dX6_log_34 : decode cX6_log 34 = .ok (.sipush 999, 3) := by decide +kernel
theorem dX6_log_37 : decode cX6_log 37 = .ok (.invokestatic 40, 3) := by decide +kernel
theorem dX6_log_40 : decode cX6_log 40 = .ok (.ifCond .eq 13, 3) := by decide +kernel
theorem dX6_log_43 : decode cX6_log 43 = .ok (.iload_n 3, 1) := by decide +kernel
theorem dX6_log_44 : decode cX6_log 44 = .ok (.iconst 1, 1) := by decide +kernel
theorem dX6_log_45 : decode cX6_log 45 = .ok (.bipush 40, 2) := by decide +kernel
theorem dX6_log_47 : decode cX6_log 47 = .ok (.invokestatic 40, 3) := by decide +kernel
theorem dX6_log_50 : decode cX6_log 50 = .ok (.ifCond .ne 11, 3) := by decide +kernel
theorem dX6_log_53 : decode cX6_log 53 = .ok (.new 44, 3) := by decide +kernel
theorem dX6_log_56 : decode cX6_log 56 = .ok (.dup, 1) := by decide +kernel
theorem dX6_log_57 : decode cX6_log 57 = .ok (.invokespecial 46, 3) := by decide +kernel
theorem dX6_log_60 : decode cX6_log 60 = .ok (.athrow, 1) := by decide +kernel
theorem dX6_log_61 : decode cX6_log 61 = .ok (.aload_n 0, 1) := by decide +kernel
theorem dX6_log_62 : decode cX6_log 62 = .ok (.getfield 10, 3) := by decide +kernel
theorem dX6_log_65 : decode cX6_log 65 = .ok (.invokevirtual 47, 3) := by decide +kernel
theorem dX6_log_68 : decode cX6_log 68 = .ok (.bipush 8, 2) := by decide +kernel
theorem dX6_log_70 : decode cX6_log 70 = .ok (.if_icmp .lt 11, 3) := by decide +kernel
theorem dX6_log_73 : decode cX6_log 73 = .ok (.new 51, 3) := by decide +kernel
theorem dX6_log_76 : decode cX6_log 76 = .ok (.dup, 1) := by decide +kernel
theorem dX6_log_77 : decode cX6_log 77 = .ok (.invokespecial 53, 3) := by decide +kernel
theorem dX6_log_80 : decode cX6_log 80 = .ok (.athrow, 1) := by decide +kernel
theorem dX6_log_81 : decode cX6_log 81 = .ok (.aload_n 0, 1) := by decide +kernel
theorem dX6_log_82 : decode cX6_log 82 = .ok (.getfield 10, 3) := by decide +kernel
theorem dX6_log_85 : decode cX6_log 85 = .ok (.new 54, 3) := by decide +kernel
theorem dX6_log_88 : decode cX6_log 88 = .ok (.dup, 1) := by decide +kernel
theorem dX6_log_89 : decode cX6_log 89 = .ok (.iload_n 1, 1) := by decide +kernel
theorem dX6_log_90 : decode cX6_log 90 = .ok (.iload_n 2, 1) := by decide +kernel
theorem dX6_log_91 : decode cX6_log 91 = .ok (.iload_n 3, 1) := by decide +kernel
theorem dX6_log_92 : decode cX6_log 92 = .ok (.iload 4, 2) := by decide +kernel
theorem dX6_log_94 : decode cX6_log 94 = .ok (.invokespecial 56, 3) := by decide +kernel
theorem dX6_log_97 : decode cX6_log 97 = .ok (.invokevirtual 59, 3) := by decide +kernel
theorem dX6_log_100 : decode cX6_log 100 = .ok (.pop, 1) := by decide +kernel
theorem dX6_log_101 : decode cX6_log 101 = .ok (.aload_n 0, 1) := by decide +kernel
theorem dX6_log_102 : decode cX6_log 102 = .ok (.getfield 10, 3) := by decide +kernel
theorem dX6_log_105 : decode cX6_log 105 = .ok (.invokevirtual 47, 3) := by decide +kernel
theorem dX6_log_108 : decode cX6_log 108 = .ok (.iconst 1, 1) := by decide +kernel
theorem dX6_log_109 : decode cX6_log 109 = .ok (.isub, 1) := by decide +kernel
theorem dX6_log_110 : decode cX6_log 110 = .ok (.ireturn, 1) := by decide +kernel
theorem dX6_slice_0 : decode cX6_slice 0 = .ok (.aload_n 0, 1) := by decide +kernel
theorem dX6_slice_1 : decode cX6_slice 1 = .ok (.iload_n 1, 1) := by decide +kernel
theorem dX6_slice_2 : decode cX6_slice 2 = .ok (.invokevirtual 63, 3) := by decide +kernel
theorem dX6_slice_5 : decode cX6_slice 5 = .ok (.astore 4, 2) := by decide +kernel
theorem dX6_slice_7 : decode cX6_slice 7 = .ok (.ldc 67, 2) := by decide +kernel
theorem dX6_slice_9 : decode cX6_slice 9 = .ok (.iload_n 2, 1) := by decide +kernel
theorem dX6_slice_10 : decode cX6_slice 10 = .ok (.invokestatic 34, 3) := by decide +kernel
theorem dX6_slice_13 : decode cX6_slice 13 = .ok (.ifCond .eq 13, 3) := by decide +kernel
theorem dX6_slice_16 : decode cX6_slice 16 = .ok (.iload_n 3, 1) := by decide +kernel
theorem dX6_slice_17 : decode cX6_slice 17 = .ok (.iconst 5, 1) := by decide +kernel
theorem dX6_slice_18 : decode cX6_slice 18 = .ok (.bipush 30, 2) := by decide +kernel
theorem dX6_slice_20 : decode cX6_slice 20 = .ok (.invokestatic 40, 3) := by decide +kernel
theorem dX6_slice_23 : decode cX6_slice 23 = .ok (.ifCond .ne 11, 3) := by decide +kernel
theorem dX6_slice_26 : decode cX6_slice 26 = .ok (.new 44, 3) := by decide +kernel
theorem dX6_slice_29 : decode cX6_slice 29 = .ok (.dup, 1) := by decide +kernel
theorem dX6_slice_30 : decode cX6_slice 30 = .ok (.invokespecial 46, 3) := by decide +kernel
theorem dX6_slice_33 : decode cX6_slice 33 = .ok (.athrow, 1) := by decide +kernel
theorem dX6_slice_34 : decode cX6_slice 34 = .ok (.aload 4, 2) := by decide +kernel
theorem dX6_slice_36 : decode cX6_slice 36 = .ok (.getfield 69, 3) := by decide +kernel
theorem dX6_slice_39 : decode cX6_slice 39 = .ok (.ifCond .eq 11, 3) := by decide +kernel
theorem dX6_slice_42 : decode cX6_slice 42 = .ok (.new 73, 3) := by decide +kernel
theorem dX6_slice_45 : decode cX6_slice 45 = .ok (.dup, 1) := by decide +kernel
theorem dX6_slice_46 : decode cX6_slice 46 = .ok (.invokespecial 75, 3) := by decide +kernel
theorem dX6_slice_49 : decode cX6_slice 49 = .ok (.athrow, 1) := by decide +kernel
theorem dX6_slice_50 : decode cX6_slice 50 = .ok (.aload 4, 2) := by decide +kernel
theorem dX6_slice_52 : decode cX6_slice 52 = .ok (.iconst 1, 1) := by decide +kernel
theorem dX6_slice_53 : decode cX6_slice 53 = .ok (.putfield 69, 3) := by decide +kernel
theorem dX6_slice_56 : decode cX6_slice 56 = .ok (.aload_n 0, 1) := by decide +kernel
theorem dX6_slice_57 : decode cX6_slice 57 = .ok (.getfield 16, 3) := by decide +kernel
theorem dX6_slice_60 : decode cX6_slice 60 = .ok (.new 76, 3) := by decide +kernel
theorem dX6_slice_63 : decode cX6_slice 63 = .ok (.dup, 1) := by decide +kernel
theorem dX6_slice_64 : decode cX6_slice 64 = .ok (.aload 4, 2) := by decide +kernel
theorem dX6_slice_66 : decode cX6_slice 66 = .ok (.iload_n 2, 1) := by decide +kernel
theorem dX6_slice_67 : decode cX6_slice 67 = .ok (.iload_n 3, 1) := by decide +kernel
theorem dX6_slice_68 : decode cX6_slice 68 = .ok (.invokespecial 78, 3) := by decide +kernel
theorem dX6_slice_71 : decode cX6_slice 71 = .ok (.invokevirtual 59, 3) := by decide +kernel
theorem dX6_slice_74 : decode cX6_slice 74 = .ok (.pop, 1) := by decide +kernel
theorem dX6_slice_75 : decode cX6_slice 75 = .ok (.aload_n 0, 1) := by decide +kernel
theorem dX6_slice_76 : decode cX6_slice 76 = .ok (.getfield 16, 3) := by decide +kernel
theorem dX6_slice_79 : decode cX6_slice 79 = .ok (.invokevirtual 47, 3) := by decide +kernel
theorem dX6_slice_82 : decode cX6_slice 82 = .ok (.iconst 1, 1) := by decide +kernel
theorem dX6_slice_83 : decode cX6_slice 83 = .ok (.isub, 1) := by decide +kernel
theorem dX6_slice_84 : decode cX6_slice 84 = .ok (.ireturn, 1) := by decide +kernel
theorem dX6_leaves_0 : decode cX6_leaves 0 = .ok (.aload_n 0, 1) := by decide +kernel
theorem dX6_leaves_1 : decode cX6_leaves 1 = .ok (.iload_n 1, 1) := by decide +kernel
theorem dX6_leaves_2 : decode cX6_leaves 2 = .ok (.invokevirtual 81, 3) := by decide +kernel
theorem dX6_leaves_5 : decode cX6_leaves 5 = .ok (.getfield 85, 3) := by decide +kernel
theorem dX6_leaves_8 : decode cX6_leaves 8 = .ok (.ireturn, 1) := by decide +kernel
theorem dX6_width_0 : decode cX6_width 0 = .ok (.aload_n 0, 1) := by decide +kernel
theorem dX6_width_1 : decode cX6_width 1 = .ok (.iload_n 1, 1) := by decide +kernel
theorem dX6_width_2 : decode cX6_width 2 = .ok (.iload_n 2, 1) := by decide +kernel
theorem dX6_width_3 : decode cX6_width 3 = .ok (.invokevirtual 88, 3) := by decide +kernel
theorem dX6_width_6 : decode cX6_width 6 = .ok (.iload_n 2, 1) := by decide +kernel
theorem dX6_width_7 : decode cX6_width 7 = .ok (.invokevirtual 92, 3) := by decide +kernel
theorem dX6_width_10 : decode cX6_width 10 = .ok (.ireturn, 1) := by decide +kernel
theorem dX6_area_0 : decode cX6_area 0 = .ok (.aload_n 0, 1) := by decide +kernel
theorem dX6_area_1 : decode cX6_area 1 = .ok (.iload_n 1, 1) := by decide +kernel
theorem dX6_area_2 : decode cX6_area 2 = .ok (.iload_n 2, 1) := by decide +kernel
theorem dX6_area_3 : decode cX6_area 3 = .ok (.invokevirtual 88, 3) := by decide +kernel
theorem dX6_area_6 : decode cX6_area 6 = .ok (.iload_n 2, 1) := by decide +kernel
theorem dX6_area_7 : decode cX6_area 7 = .ok (.invokevirtual 96, 3) := by decide +kernel
theorem dX6_area_10 : decode cX6_area 10 = .ok (.ireturn, 1) := by decide +kernel
theorem dX6_figure_0 : decode cX6_figure 0 = .ok (.aload_n 0, 1) := by decide +kernel
theorem dX6_figure_1 : decode cX6_figure 1 = .ok (.iload_n 1, 1) := by decide +kernel
theorem dX6_figure_2 : decode cX6_figure 2 = .ok (.iload_n 2, 1) := by decide +kernel
theorem dX6_figure_3 : decode cX6_figure 3 = .ok (.invokevirtual 88, 3) := by decide +kernel
theorem dX6_figure_6 : decode cX6_figure 6 = .ok (.iload_n 2, 1) := by decide +kernel
theorem dX6_figure_7 : decode cX6_figure 7 = .ok (.invokevirtual 99, 3) := by decide +kernel
theorem dX6_figure_10 : decode cX6_figure 10 = .ok (.ireturn, 1) := by decide +kernel
theorem dX6_isUsed_0 : decode cX6_isUsed 0 = .ok (.aload_n 0, 1) := by decide +kernel
theorem dX6_isUsed_1 : decode cX6_isUsed 1 = .ok (.iload_n 1, 1) := by decide +kernel
theorem dX6_isUsed_2 : decode cX6_isUsed 2 = .ok (.iload_n 2, 1) := by decide +kernel
theorem dX6_isUsed_3 : decode cX6_isUsed 3 = .ok (.invokevirtual 88, 3) := by decide +kernel
theorem dX6_isUsed_6 : decode cX6_isUsed 6 = .ok (.iload_n 2, 1) := by decide +kernel
theorem dX6_isUsed_7 : decode cX6_isUsed 7 = .ok (.invokevirtual 102, 3) := by decide +kernel
theorem dX6_isUsed_10 : decode cX6_isUsed 10 = .ok (.ireturn, 1) := by decide +kernel
theorem dX6_panel_0 : decode cX6_panel 0 = .ok (.iload_n 1, 1) := by decide +kernel
theorem dX6_panel_1 : decode cX6_panel 1 = .ok (.bipush 100, 2) := by decide +kernel
theorem dX6_panel_3 : decode cX6_panel 3 = .ok (.sipush 2000, 3) := by decide +kernel
theorem dX6_panel_6 : decode cX6_panel 6 = .ok (.invokestatic 40, 3) := by decide +kernel
theorem dX6_panel_9 : decode cX6_panel 9 = .ok (.ifCond .eq 28, 3) := by decide +kernel
theorem dX6_panel_12 : decode cX6_panel 12 = .ok (.iload_n 2, 1) := by decide +kernel
theorem dX6_panel_13 : decode cX6_panel 13 = .ok (.iconst 1, 1) := by decide +kernel
theorem dX6_panel_14 : decode cX6_panel 14 = .ok (.bipush 20, 2) := by decide +kernel
theorem dX6_panel_16 : decode cX6_panel 16 = .ok (.invokestatic 40, 3) := by decide +kernel
theorem dX6_panel_19 : decode cX6_panel 19 = .ok (.ifCond .eq 18, 3) := by decide +kernel
theorem dX6_panel_22 : decode cX6_panel 22 = .ok (.iload 4, 2) := by decide +kernel
theorem dX6_panel_24 : decode cX6_panel 24 = .ok (.iconst 5, 1) := by decide +kernel
theorem dX6_panel_25 : decode cX6_panel 25 = .ok (.bipush 40, 2) := by decide +kernel
theorem dX6_panel_27 : decode cX6_panel 27 = .ok (.invokestatic 40, 3) := by decide +kernel
theorem dX6_panel_30 : decode cX6_panel 30 = .ok (.ifCond .eq 7, 3) := by decide +kernel
theorem dX6_panel_33 : decode cX6_panel 33 = .ok (.iconst 1, 1) := by decide +kernel
theorem dX6_panel_34 : decode cX6_panel 34 = .ok (.goto 4, 3) := by decide +kernel
theorem dX6_panel_37 : decode cX6_panel 37 = .ok (.iconst 0, 1) := by decide +kernel
theorem dX6_panel_38 : decode cX6_panel 38 = .ok (.istore 5, 2) := by decide +kernel
theorem dX6_panel_40 : decode cX6_panel 40 = .ok (.iload 5, 2) := by decide +kernel
theorem dX6_panel_42 : decode cX6_panel 42 = .ok (.ifCond .eq 12, 3) := by decide +kernel
theorem dX6_panel_45 : decode cX6_panel 45 = .ok (.ldc 106, 2) := by decide +kernel
theorem dX6_panel_47 : decode cX6_panel 47 = .ok (.iload_n 3, 1) := by decide +kernel
theorem dX6_panel_48 : decode cX6_panel 48 = .ok (.invokestatic 34, 3) := by decide +kernel
theorem dX6_panel_51 : decode cX6_panel 51 = .ok (.ifCond .ne 11, 3) := by decide +kernel
theorem dX6_panel_54 : decode cX6_panel 54 = .ok (.new 44, 3) := by decide +kernel
theorem dX6_panel_57 : decode cX6_panel 57 = .ok (.dup, 1) := by decide +kernel
theorem dX6_panel_58 : decode cX6_panel 58 = .ok (.invokespecial 46, 3) := by decide +kernel
theorem dX6_panel_61 : decode cX6_panel 61 = .ok (.athrow, 1) := by decide +kernel
theorem dX6_panel_62 : decode cX6_panel 62 = .ok (.aload_n 0, 1) := by decide +kernel
theorem dX6_panel_63 : decode cX6_panel 63 = .ok (.getfield 19, 3) := by decide +kernel
theorem dX6_panel_66 : decode cX6_panel 66 = .ok (.invokevirtual 47, 3) := by decide +kernel
theorem dX6_panel_69 : decode cX6_panel 69 = .ok (.bipush 8, 2) := by decide +kernel
theorem dX6_panel_71 : decode cX6_panel 71 = .ok (.if_icmp .lt 11, 3) := by decide +kernel
theorem dX6_panel_74 : decode cX6_panel 74 = .ok (.new 51, 3) := by decide +kernel
theorem dX6_panel_77 : decode cX6_panel 77 = .ok (.dup, 1) := by decide +kernel
theorem dX6_panel_78 : decode cX6_panel 78 = .ok (.invokespecial 53, 3) := by decide +kernel
theorem dX6_panel_81 : decode cX6_panel 81 = .ok (.athrow, 1) := by decide +kernel
theorem dX6_panel_82 : decode cX6_panel 82 = .ok (.aload_n 0, 1) := by decide +kernel
theorem dX6_panel_83 : decode cX6_panel 83 = .ok (.getfield 19, 3) := by decide +kernel
theorem dX6_panel_86 : decode cX6_panel 86 = .ok (.new 108, 3) := by decide +kernel
theorem dX6_panel_89 : decode cX6_panel 89 = .ok (.dup, 1) := by decide +kernel
theorem dX6_panel_90 : decode cX6_panel 90 = .ok (.iload_n 1, 1) := by decide +kernel
theorem dX6_panel_91 : decode cX6_panel 91 = .ok (.iload_n 2, 1) := by decide +kernel
theorem dX6_panel_92 : decode cX6_panel 92 = .ok (.iload_n 3, 1) := by decide +kernel
theorem dX6_panel_93 : decode cX6_panel 93 = .ok (.iload 4, 2) := by decide +kernel
theorem dX6_panel_95 : decode cX6_panel 95 = .ok (.invokespecial 110, 3) := by decide +kernel
theorem dX6_panel_98 : decode cX6_panel 98 = .ok (.invokevirtual 59, 3) := by decide +kernel
theorem dX6_panel_101 : decode cX6_panel 101 = .ok (.pop, 1) := by decide +kernel
theorem dX6_panel_102 : decode cX6_panel 102 = .ok (.aload_n 0, 1) := by decide +kernel
theorem dX6_panel_103 : decode cX6_panel 103 = .ok (.getfield 19, 3) := by decide +kernel
theorem dX6_panel_106 : decode cX6_panel 106 = .ok (.invokevirtual 47, 3) := by decide +kernel
theorem dX6_panel_109 : decode cX6_panel 109 = .ok (.iconst 1, 1) := by decide +kernel
theorem dX6_panel_110 : decode cX6_panel 110 = .ok (.isub, 1) := by decide +kernel
theorem dX6_panel_111 : decode cX6_panel 111 = .ok (.ireturn, 1) := by decide +kernel
theorem dX6_face_0 : decode cX6_face 0 = .ok (.aload_n 0, 1) := by decide +kernel
theorem dX6_face_1 : decode cX6_face 1 = .ok (.iload_n 1, 1) := by decide +kernel
theorem dX6_face_2 : decode cX6_face 2 = .ok (.invokevirtual 113, 3) := by decide +kernel
theorem dX6_face_5 : decode cX6_face 5 = .ok (.astore 6, 2) := by decide +kernel
theorem dX6_face_7 : decode cX6_face 7 = .ok (.aload_n 0, 1) := by decide +kernel
theorem dX6_face_8 : decode cX6_face 8 = .ok (.iload_n 2, 1) := by decide +kernel
theorem dX6_face_9 : decode cX6_face 9 = .ok (.iload_n 3, 1) := by decide +kernel
theorem dX6_face_10 : decode cX6_face 10 = .ok (.iload 4, 2) := by decide +kernel
theorem dX6_face_12 : decode cX6_face 12 = .ok (.invokevirtual 117, 3) := by decide +kernel
theorem dX6_face_15 : decode cX6_face 15 = .ok (.astore 7, 2) := by decide +kernel
theorem dX6_face_17 : decode cX6_face 17 = .ok (.ldc 121, 2) := by decide +kernel
theorem dX6_face_19 : decode cX6_face 19 = .ok (.iload 5, 2) := by decide +kernel
theorem dX6_face_21 : decode cX6_face 21 = .ok (.invokestatic 34, 3) := by decide +kernel
theorem dX6_face_24 : decode cX6_face 24 = .ok (.ifCond .eq 14, 3) := by decide +kernel
theorem dX6_face_27 : decode cX6_face 27 = .ok (.iload 4, 2) := by decide +kernel
theorem dX6_face_29 : decode cX6_face 29 = .ok (.iconst 1, 1) := by decide +kernel
theorem dX6_face_30 : decode cX6_face 30 = .ok (.bipush 8, 2) := by decide +kernel
theorem dX6_face_32 : decode cX6_face 32 = .ok (.invokestatic 40, 3) := by decide +kernel
theorem dX6_face_35 : decode cX6_face 35 = .ok (.ifCond .ne 11, 3) := by decide +kernel
theorem dX6_face_38 : decode cX6_face 38 = .ok (.new 44, 3) := by decide +kernel
theorem dX6_face_41 : decode cX6_face 41 = .ok (.dup, 1) := by decide +kernel
theorem dX6_face_42 : decode cX6_face 42 = .ok (.invokespecial 46, 3) := by decide +kernel
theorem dX6_face_45 : decode cX6_face 45 = .ok (.athrow, 1) := by decide +kernel
theorem dX6_face_46 : decode cX6_face 46 = .ok (.aload 6, 2) := by decide +kernel
theorem dX6_face_48 : decode cX6_face 48 = .ok (.getfield 123, 3) := by decide +kernel
theorem dX6_face_51 : decode cX6_face 51 = .ok (.ifnonnull 16, 3) := by decide +kernel
theorem dX6_face_54 : decode cX6_face 54 = .ok (.aload 6, 2) := by decide +kernel
theorem dX6_face_56 : decode cX6_face 56 = .ok (.aload 7, 2) := by decide +kernel
theorem dX6_face_58 : decode cX6_face 58 = .ok (.iload_n 3, 1) := by decide +kernel
theorem dX6_face_59 : decode cX6_face 59 = .ok (.iload 4, 2) := by decide +kernel
theorem dX6_face_61 : decode cX6_face 61 = .ok (.invokestatic 127, 3) := by decide +kernel
theorem dX6_face_64 : decode cX6_face 64 = .ok (.ifCond .ne 11, 3) := by decide +kernel
theorem dX6_face_67 : decode cX6_face 67 = .ok (.new 73, 3) := by decide +kernel
theorem dX6_face_70 : decode cX6_face 70 = .ok (.dup, 1) := by decide +kernel
theorem dX6_face_71 : decode cX6_face 71 = .ok (.invokespecial 75, 3) := by decide +kernel
theorem dX6_face_74 : decode cX6_face 74 = .ok (.athrow, 1) := by decide +kernel
theorem dX6_face_75 : decode cX6_face 75 = .ok (.aload 6, 2) := by decide +kernel
theorem dX6_face_77 : decode cX6_face 77 = .ok (.new 131, 3) := by decide +kernel
theorem dX6_face_80 : decode cX6_face 80 = .ok (.dup, 1) := by decide +kernel
theorem dX6_face_81 : decode cX6_face 81 = .ok (.aload 7, 2) := by decide +kernel
theorem dX6_face_83 : decode cX6_face 83 = .ok (.iload_n 3, 1) := by decide +kernel
theorem dX6_face_84 : decode cX6_face 84 = .ok (.iload 4, 2) := by decide +kernel
theorem dX6_face_86 : decode cX6_face 86 = .ok (.invokespecial 133, 3) := by decide +kernel
theorem dX6_face_89 : decode cX6_face 89 = .ok (.putfield 123, 3) := by decide +kernel
theorem dX6_face_92 : decode cX6_face 92 = .ok (.aload 6, 2) := by decide +kernel
theorem dX6_face_94 : decode cX6_face 94 = .ok (.aload 7, 2) := by decide +kernel
theorem dX6_face_96 : decode cX6_face 96 = .ok (.iload_n 3, 1) := by decide +kernel
theorem dX6_face_97 : decode cX6_face 97 = .ok (.iload 4, 2) := by decide +kernel
theorem dX6_face_99 : decode cX6_face 99 = .ok (.iload 5, 2) := by decide +kernel
theorem dX6_face_101 : decode cX6_face 101 = .ok (.invokestatic 136, 3) := by decide +kernel
theorem dX6_face_104 : decode cX6_face 104 = .ok (.putfield 140, 3) := by decide +kernel
theorem dX6_face_107 : decode cX6_face 107 = .ok (.aload 6, 2) := by decide +kernel
theorem dX6_face_109 : decode cX6_face 109 = .ok (.bipush 10, 2) := by decide +kernel
theorem dX6_face_111 : decode cX6_face 111 = .ok (.aload 7, 2) := by decide +kernel
theorem dX6_face_113 : decode cX6_face 113 = .ok (.getfield 143, 3) := by decide +kernel
theorem dX6_face_116 : decode cX6_face 116 = .ok (.imul, 1) := by decide +kernel
theorem dX6_face_117 : decode cX6_face 117 = .ok (.putfield 146, 3) := by decide +kernel
theorem dX6_face_120 : decode cX6_face 120 = .ok (.aload_n 0, 1) := by decide +kernel
theorem dX6_face_121 : decode cX6_face 121 = .ok (.dup, 1) := by decide +kernel
theorem dX6_face_122 : decode cX6_face 122 = .ok (.getfield 149, 3) := by decide +kernel
theorem dX6_face_125 : decode cX6_face 125 = .ok (.aload 6, 2) := by decide +kernel
theorem dX6_face_127 : decode cX6_face 127 = .ok (.invokevirtual 152, 3) := by decide +kernel
theorem dX6_face_130 : decode cX6_face 130 = .ok (.iadd, 1) := by decide +kernel
theorem dX6_face_131 : decode cX6_face 131 = .ok (.putfield 149, 3) := by decide +kernel
theorem dX6_face_134 : decode cX6_face 134 = .ok (.aload_n 0, 1) := by decide +kernel
theorem dX6_face_135 : decode cX6_face 135 = .ok (.aload 6, 2) := by decide +kernel
theorem dX6_face_137 : decode cX6_face 137 = .ok (.aload 6, 2) := by decide +kernel
theorem dX6_face_139 : decode cX6_face 139 = .ok (.getfield 123, 3) := by decide +kernel
theorem dX6_face_142 : decode cX6_face 142 = .ok (.invokevirtual 155, 3) := by decide +kernel
theorem dX6_face_145 : decode cX6_face 145 = .ok (.pop, 1) := by decide +kernel
theorem dX6_face_146 : decode cX6_face 146 = .ok (.aload 6, 2) := by decide +kernel
theorem dX6_face_148 : decode cX6_face 148 = .ok (.getfield 140, 3) := by decide +kernel
theorem dX6_face_151 : decode cX6_face 151 = .ok (.ireturn, 1) := by decide +kernel
theorem dX6_back_0 : decode cX6_back 0 = .ok (.aload_n 0, 1) := by decide +kernel
theorem dX6_back_1 : decode cX6_back 1 = .ok (.iload_n 1, 1) := by decide +kernel
theorem dX6_back_2 : decode cX6_back 2 = .ok (.invokevirtual 113, 3) := by decide +kernel
theorem dX6_back_5 : decode cX6_back 5 = .ok (.astore 5, 2) := by decide +kernel
theorem dX6_back_7 : decode cX6_back 7 = .ok (.aload_n 0, 1) := by decide +kernel
theorem dX6_back_8 : decode cX6_back 8 = .ok (.iload_n 2, 1) := by decide +kernel
theorem dX6_back_9 : decode cX6_back 9 = .ok (.iload_n 3, 1) := by decide +kernel
theorem dX6_back_10 : decode cX6_back 10 = .ok (.iload 4, 2) := by decide +kernel
theorem dX6_back_12 : decode cX6_back 12 = .ok (.invokevirtual 117, 3) := by decide +kernel
theorem dX6_back_15 : decode cX6_back 15 = .ok (.astore 6, 2) := by decide +kernel
theorem dX6_back_17 : decode cX6_back 17 = .ok (.iload 4, 2) := by decide +kernel
theorem dX6_back_19 : decode cX6_back 19 = .ok (.iconst 1, 1) := by decide +kernel
theorem dX6_back_20 : decode cX6_back 20 = .ok (.bipush 8, 2) := by decide +kernel
theorem dX6_back_22 : decode cX6_back 22 = .ok (.invokestatic 40, 3) := by decide +kernel
theorem dX6_back_25 : decode cX6_back 25 = .ok (.ifCond .ne 11, 3) := by decide +kernel
theorem dX6_back_28 : decode cX6_back 28 = .ok (.new 44, 3) := by decide +kernel
theorem dX6_back_31 : decode cX6_back 31 = .ok (.dup, 1) := by decide +kernel
theorem dX6_back_32 : decode cX6_back 32 = .ok (.invokespecial 46, 3) := by decide +kernel
theorem dX6_back_35 : decode cX6_back 35 = .ok (.athrow, 1) := by decide +kernel
theorem dX6_back_36 : decode cX6_back 36 = .ok (.aload 5, 2) := by decide +kernel
theorem dX6_back_38 : decode cX6_back 38 = .ok (.getfield 159, 3) := by decide +kernel
theorem dX6_back_41 : decode cX6_back 41 = .ok (.ifnonnull 24, 3) := by decide +kernel
theorem dX6_back_44 : decode cX6_back 44 = .ok (.aload 5, 2) := by decide +kernel
theorem dX6_back_46 : decode cX6_back 46 = .ok (.getfield 162, 3) := by decide +kernel
theorem dX6_back_49 : decode cX6_back 49 = .ok (.ifCond .ne 16, 3) := by decide +kernel
theorem dX6_back_52 : decode cX6_back 52 = .ok (.aload 5, 2) := by decide +kernel
theorem dX6_back_54 : decode cX6_back 54 = .ok (.aload 6, 2) := by decide +kernel
theorem dX6_back_56 : decode cX6_back 56 = .ok (.iload_n 3, 1) := by decide +kernel
theorem dX6_back_57 : decode cX6_back 57 = .ok (.iload 4, 2) := by decide +kernel
theorem dX6_back_59 : decode cX6_back 59 = .ok (.invokestatic 127, 3) := by decide +kernel
theorem dX6_back_62 : decode cX6_back 62 = .ok (.ifCond .ne 11, 3) := by decide +kernel
theorem dX6_back_65 : decode cX6_back 65 = .ok (.new 73, 3) := by decide +kernel
theorem dX6_back_68 : decode cX6_back 68 = .ok (.dup, 1) := by decide +kernel
theorem dX6_back_69 : decode cX6_back 69 = .ok (.invokespecial 75, 3) := by decide +kernel
theorem dX6_back_72 : decode cX6_back 72 = .ok (.athrow, 1) := by decide +kernel
theorem dX6_back_73 : decode cX6_back 73 = .ok (.aload 5, 2) := by decide +kernel
theorem dX6_back_75 : decode cX6_back 75 = .ok (.new 131, 3) := by decide +kernel
theorem dX6_back_78 : decode cX6_back 78 = .ok (.dup, 1) := by decide +kernel
theorem dX6_back_79 : decode cX6_back 79 = .ok (.aload 6, 2) := by decide +kernel
theorem dX6_back_81 : decode cX6_back 81 = .ok (.iload_n 3, 1) := by decide +kernel
theorem dX6_back_82 : decode cX6_back 82 = .ok (.iload 4, 2) := by decide +kernel
theorem dX6_back_84 : decode cX6_back 84 = .ok (.invokespecial 133, 3) := by decide +kernel
theorem dX6_back_87 : decode cX6_back 87 = .ok (.putfield 159, 3) := by decide +kernel
theorem dX6_back_90 : decode cX6_back 90 = .ok (.aload_n 0, 1) := by decide +kernel
theorem dX6_back_91 : decode cX6_back 91 = .ok (.dup, 1) := by decide +kernel
theorem dX6_back_92 : decode cX6_back 92 = .ok (.getfield 165, 3) := by decide +kernel
theorem dX6_back_95 : decode cX6_back 95 = .ok (.aload 5, 2) := by decide +kernel
theorem dX6_back_97 : decode cX6_back 97 = .ok (.invokevirtual 152, 3) := by decide +kernel
theorem dX6_back_100 : decode cX6_back 100 = .ok (.iadd, 1) := by decide +kernel
theorem dX6_back_101 : decode cX6_back 101 = .ok (.putfield 165, 3) := by decide +kernel
theorem dX6_back_104 : decode cX6_back 104 = .ok (.aload_n 0, 1) := by decide +kernel
theorem dX6_back_105 : decode cX6_back 105 = .ok (.aload 5, 2) := by decide +kernel
theorem dX6_back_107 : decode cX6_back 107 = .ok (.aload 5, 2) := by decide +kernel
theorem dX6_back_109 : decode cX6_back 109 = .ok (.getfield 159, 3) := by decide +kernel
theorem dX6_back_112 : decode cX6_back 112 = .ok (.invokevirtual 155, 3) := by decide +kernel
theorem dX6_back_115 : decode cX6_back 115 = .ok (.ireturn, 1) := by decide +kernel
theorem dX6_jump_0 : decode cX6_jump 0 = .ok (.aload_n 0, 1) := by decide +kernel
theorem dX6_jump_1 : decode cX6_jump 1 = .ok (.iload_n 1, 1) := by decide +kernel
theorem dX6_jump_2 : decode cX6_jump 2 = .ok (.invokevirtual 113, 3) := by decide +kernel
theorem dX6_jump_5 : decode cX6_jump 5 = .ok (.astore_n 2, 1) := by decide +kernel
theorem dX6_jump_6 : decode cX6_jump 6 = .ok (.aload_n 2, 1) := by decide +kernel
theorem dX6_jump_7 : decode cX6_jump 7 = .ok (.getfield 123, 3) := by decide +kernel
theorem dX6_jump_10 : decode cX6_jump 10 = .ok (.ifnonnull 11, 3) := by decide +kernel
theorem dX6_jump_13 : decode cX6_jump 13 = .ok (.new 168, 3) := by decide +kernel
theorem dX6_jump_16 : decode cX6_jump 16 = .ok (.dup, 1) := by decide +kernel
theorem dX6_jump_17 : decode cX6_jump 17 = .ok (.invokespecial 170, 3) := by decide +kernel
theorem dX6_jump_20 : decode cX6_jump 20 = .ok (.athrow, 1) := by decide +kernel
theorem dX6_jump_21 : decode cX6_jump 21 = .ok (.aload_n 2, 1) := by decide +kernel
theorem dX6_jump_22 : decode cX6_jump 22 = .ok (.getfield 140, 3) := by decide +kernel
theorem dX6_jump_25 : decode cX6_jump 25 = .ok (.ireturn, 1) := by decide +kernel
theorem dX6_bestFirst_0 : decode cX6_bestFirst 0 = .ok (.aload_n 0, 1) := by decide +kernel
theorem dX6_bestFirst_1 : decode cX6_bestFirst 1 = .ok (.iload_n 1, 1) := by decide +kernel
theorem dX6_bestFirst_2 : decode cX6_bestFirst 2 = .ok (.invokevirtual 113, 3) := by decide +kernel
theorem dX6_bestFirst_5 : decode cX6_bestFirst 5 = .ok (.astore 5, 2) := by decide +kernel
theorem dX6_bestFirst_7 : decode cX6_bestFirst 7 = .ok (.aload_n 0, 1) := by decide +kernel
theorem dX6_bestFirst_8 : decode cX6_bestFirst 8 = .ok (.iload_n 2, 1) := by decide +kernel
theorem dX6_bestFirst_9 : decode cX6_bestFirst 9 = .ok (.invokevirtual 81, 3) := by decide +kernel
theorem dX6_bestFirst_12 : decode cX6_bestFirst 12 = .ok (.astore 6, 2) := by decide +kernel
theorem dX6_bestFirst_14 : decode cX6_bestFirst 14 = .ok (.ldc 121, 2) := by decide +kernel
theorem dX6_bestFirst_16 : decode cX6_bestFirst 16 = .ok (.iload 4, 2) := by decide +kernel
theorem dX6_bestFirst_18 : decode cX6_bestFirst 18 = .ok (.invokestatic 34, 3) := by decide +kernel
theorem dX6_bestFirst_21 : decode cX6_bestFirst 21 = .ok (.ifCond .eq 13, 3) := by decide +kernel
theorem dX6_bestFirst_24 : decode cX6_bestFirst 24 = .ok (.iload_n 3, 1) := by decide +kernel
theorem dX6_bestFirst_25 : decode cX6_bestFirst 25 = .ok (.iconst 1, 1) := by decide +kernel
theorem dX6_bestFirst_26 : decode cX6_bestFirst 26 = .ok (.bipush 8, 2) := by decide +kernel
theorem dX6_bestFirst_28 : decode cX6_bestFirst 28 = .ok (.invokestatic 40, 3) := by decide +kernel
theorem dX6_bestFirst_31 : decode cX6_bestFirst 31 = .ok (.ifCond .ne 11, 3) := by decide +kernel
theorem dX6_bestFirst_34 : decode cX6_bestFirst 34 = .ok (.new 44, 3) := by decide +kernel
theorem dX6_bestFirst_37 : decode cX6_bestFirst 37 = .ok (.dup, 1) := by decide +kernel
theorem dX6_bestFirst_38 : decode cX6_bestFirst 38 = .ok (.invokespecial 46, 3) := by decide +kernel
theorem dX6_bestFirst_41 : decode cX6_bestFirst 41 = .ok (.athrow, 1) := by decide +kernel
theorem dX6_bestFirst_42 : decode cX6_bestFirst 42 = .ok (.iconst (-1), 1) := by decide +kernel
theorem dX6_bestFirst_43 : decode cX6_bestFirst 43 = .ok (.istore 7, 2) := by decide +kernel
theorem dX6_bestFirst_45 : decode cX6_bestFirst 45 = .ok (.iconst 0, 1) := by decide +kernel
theorem dX6_bestFirst_46 : decode cX6_bestFirst 46 = .ok (.istore 8, 2) := by decide +kernel
theorem dX6_bestFirst_48 : decode cX6_bestFirst 48 = .ok (.iconst 0, 1) := by decide +kernel
theorem dX6_bestFirst_49 : decode cX6_bestFirst 49 = .ok (.istore 9, 2) := by decide +kernel
theorem dX6_bestFirst_51 : decode cX6_bestFirst 51 = .ok (.iload 9, 2) := by decide +kernel
theorem dX6_bestFirst_53 : decode cX6_bestFirst 53 = .ok (.aload 6, 2) := by decide +kernel
theorem dX6_bestFirst_55 : decode cX6_bestFirst 55 = .ok (.getfield 85, 3) := by decide +kernel
theorem dX6_bestFirst_58 : decode cX6_bestFirst 58 = .ok (.iload_n 3, 1) := by decide +kernel
theorem dX6_bestFirst_59 : decode cX6_bestFirst 59 = .ok (.isub, 1) := by decide +kernel
theorem dX6_bestFirst_60 : decode cX6_bestFirst 60 = .ok (.if_icmp .gt 54, 3) := by decide +kernel
theorem dX6_bestFirst_63 : decode cX6_bestFirst 63 = .ok (.aload 5, 2) := by decide +kernel
theorem dX6_bestFirst_65 : decode cX6_bestFirst 65 = .ok (.aload 6, 2) := by decide +kernel
theorem dX6_bestFirst_67 : decode cX6_bestFirst 67 = .ok (.iload 9, 2) := by decide +kernel
theorem dX6_bestFirst_69 : decode cX6_bestFirst 69 = .ok (.iload_n 3, 1) := by decide +kernel
theorem dX6_bestFirst_70 : decode cX6_bestFirst 70 = .ok (.invokestatic 127, 3) := by decide +kernel
theorem dX6_bestFirst_73 : decode cX6_bestFirst 73 = .ok (.ifCond .eq 35, 3) := by decide +kernel
theorem dX6_bestFirst_76 : decode cX6_bestFirst 76 = .ok (.aload 6, 2) := by decide +kernel
theorem dX6_bestFirst_78 : decode cX6_bestFirst 78 = .ok (.iload 9, 2) := by decide +kernel
theorem dX6_bestFirst_80 : decode cX6_bestFirst 80 = .ok (.iload_n 3, 1) := by decide +kernel
theorem dX6_bestFirst_81 : decode cX6_bestFirst 81 = .ok (.iload 4, 2) := by decide +kernel
theorem dX6_bestFirst_83 : decode cX6_bestFirst 83 = .ok (.invokestatic 136, 3) := by decide +kernel
theorem dX6_bestFirst_86 : decode cX6_bestFirst 86 = .ok (.istore 10, 2) := by decide +kernel
theorem dX6_bestFirst_88 : decode cX6_bestFirst 88 = .ok (.iload 7, 2) := by decide +kernel
theorem dX6_bestFirst_90 : decode cX6_bestFirst 90 = .ok (.ifCond .lt 10, 3) := by decide +kernel
theorem dX6_bestFirst_93 : decode cX6_bestFirst 93 = .ok (.iload 10, 2) := by decide +kernel
theorem dX6_bestFirst_95 : decode cX6_bestFirst 95 = .ok (.iload 8, 2) := by decide +kernel
theorem dX6_bestFirst_97 : decode cX6_bestFirst 97 = .ok (.if_icmp .ge 11, 3) := by decide +kernel
theorem dX6_bestFirst_100 : decode cX6_bestFirst 100 = .ok (.iload 9, 2) := by decide +kernel
theorem dX6_bestFirst_102 : decode cX6_bestFirst 102 = .ok (.istore 7, 2) := by decide +kernel
theorem dX6_bestFirst_104 : decode cX6_bestFirst 104 = .ok (.iload 10, 2) := by decide +kernel
theorem dX6_bestFirst_106 : decode cX6_bestFirst 106 = .ok (.istore 8, 2) := by decide +kernel
theorem dX6_bestFirst_108 : decode cX6_bestFirst 108 = .ok (.iinc 9 1, 3) := by decide +kernel
theorem dX6_bestFirst_111 : decode cX6_bestFirst 111 = .ok (.goto (-60), 3) := by decide +kernel
theorem dX6_bestFirst_114 : decode cX6_bestFirst 114 = .ok (.iload 7, 2) := by decide +kernel
theorem dX6_bestFirst_116 : decode cX6_bestFirst 116 = .ok (.ifCond .ge 11, 3) := by decide +kernel
theorem dX6_bestFirst_119 : decode cX6_bestFirst 119 = .ok (.new 168, 3) := by decide +kernel
theorem dX6_bestFirst_122 : decode cX6_bestFirst 122 = .ok (.dup, 1) := by decide +kernel
theorem dX6_bestFirst_123 : decode cX6_bestFirst 123 = .ok (.invokespecial 170, 3) := by decide +kernel
theorem dX6_bestFirst_126 : decode cX6_bestFirst 126 = .ok (.athrow, 1) := by decide +kernel
theorem dX6_bestFirst_127 : decode cX6_bestFirst 127 = .ok (.iload 7, 2) := by decide +kernel
theorem dX6_bestFirst_129 : decode cX6_bestFirst 129 = .ok (.ireturn, 1) := by decide +kernel
theorem dX6_press_0 : decode cX6_press 0 = .ok (.aload_n 0, 1) := by decide +kernel
theorem dX6_press_1 : decode cX6_press 1 = .ok (.iload_n 1, 1) := by decide +kernel
theorem dX6_press_2 : decode cX6_press 2 = .ok (.invokevirtual 113, 3) := by decide +kernel
theorem dX6_press_5 : decode cX6_press 5 = .ok (.astore 5, 2) := by decide +kernel
theorem dX6_press_7 : decode cX6_press 7 = .ok (.iload_n 2, 1) := by decide +kernel
theorem dX6_press_8 : decode cX6_press 8 = .ok (.iconst 0, 1) := by decide +kernel
theorem dX6_press_9 : decode cX6_press 9 = .ok (.bipush 60, 2) := by decide +kernel
theorem dX6_press_11 : decode cX6_press 11 = .ok (.invokestatic 40, 3) := by decide +kernel
theorem dX6_press_14 : decode cX6_press 14 = .ok (.ifCond .eq 24, 3) := by decide +kernel
theorem dX6_press_17 : decode cX6_press 17 = .ok (.iload_n 3, 1) := by decide +kernel
theorem dX6_press_18 : decode cX6_press 18 = .ok (.iconst 1, 1) := by decide +kernel
theorem dX6_press_19 : decode cX6_press 19 = .ok (.bipush 99, 2) := by decide +kernel
theorem dX6_press_21 : decode cX6_press 21 = .ok (.invokestatic 40, 3) := by decide +kernel
theorem dX6_press_24 : decode cX6_press 24 = .ok (.ifCond .eq 14, 3) := by decide +kernel
theorem dX6_press_27 : decode cX6_press 27 = .ok (.iload 4, 2) := by decide +kernel
theorem dX6_press_29 : decode cX6_press 29 = .ok (.iconst 0, 1) := by decide +kernel
theorem dX6_press_30 : decode cX6_press 30 = .ok (.bipush 60, 2) := by decide +kernel
theorem dX6_press_32 : decode cX6_press 32 = .ok (.invokestatic 40, 3) := by decide +kernel
theorem dX6_press_35 : decode cX6_press 35 = .ok (.ifCond .ne 11, 3) := by decide +kernel
theorem dX6_press_38 : decode cX6_press 38 = .ok (.new 44, 3) := by decide +kernel
theorem dX6_press_41 : decode cX6_press 41 = .ok (.dup, 1) := by decide +kernel
theorem dX6_press_42 : decode cX6_press 42 = .ok (.invokespecial 46, 3) := by decide +kernel
theorem dX6_press_45 : decode cX6_press 45 = .ok (.athrow, 1) := by decide +kernel
theorem dX6_press_46 : decode cX6_press 46 = .ok (.aload 5, 2) := by decide +kernel
theorem dX6_press_48 : decode cX6_press 48 = .ok (.getfield 123, 3) := by decide +kernel
theorem dX6_press_51 : decode cX6_press 51 = .ok (.astore 6, 2) := by decide +kernel
theorem dX6_press_53 : decode cX6_press 53 = .ok (.aload 6, 2) := by decide +kernel
theorem dX6_press_55 : decode cX6_press 55 = .ok (.ifnull 11, 3) := by decide +kernel
theorem dX6_press_58 : decode cX6_press 58 = .ok (.aload 5, 2) := by decide +kernel
theorem dX6_press_60 : decode cX6_press 60 = .ok (.getfield 162, 3) := by decide +kernel
theorem dX6_press_63 : decode cX6_press 63 = .ok (.ifCond .eq 11, 3) := by decide +kernel
theorem dX6_press_66 : decode cX6_press 66 = .ok (.new 73, 3) := by decide +kernel
theorem dX6_press_69 : decode cX6_press 69 = .ok (.dup, 1) := by decide +kernel
theorem dX6_press_70 : decode cX6_press 70 = .ok (.invokespecial 75, 3) := by decide +kernel
theorem dX6_press_73 : decode cX6_press 73 = .ok (.athrow, 1) := by decide +kernel
theorem dX6_press_74 : decode cX6_press 74 = .ok (.aload 5, 2) := by decide +kernel
theorem dX6_press_76 : decode cX6_press 76 = .ok (.iconst 1, 1) := by decide +kernel
theorem dX6_press_77 : decode cX6_press 77 = .ok (.putfield 162, 3) := by decide +kernel
theorem dX6_press_80 : decode cX6_press 80 = .ok (.aload 5, 2) := by decide +kernel
theorem dX6_press_82 : decode cX6_press 82 = .ok (.aload_n 0, 1) := by decide +kernel
theorem dX6_press_83 : decode cX6_press 83 = .ok (.getfield 28, 3) := by decide +kernel
theorem dX6_press_86 : decode cX6_press 86 = .ok (.putfield 171, 3) := by decide +kernel
theorem dX6_press_89 : decode cX6_press 89 = .ok (.iload 4, 2) := by decide +kernel
theorem dX6_press_91 : decode cX6_press 91 = .ok (.iconst 4, 1) := by decide +kernel
theorem dX6_press_92 : decode cX6_press 92 = .ok (.iload_n 2, 1) := by decide +kernel
theorem dX6_press_93 : decode cX6_press 93 = .ok (.iconst 3, 1) := by decide +kernel
theorem dX6_press_94 : decode cX6_press 94 = .ok (.idiv, 1) := by decide +kernel
theorem dX6_press_95 : decode cX6_press 95 = .ok (.iadd, 1) := by decide +kernel
theorem dX6_press_96 : decode cX6_press 96 = .ok (.if_icmp .le 20, 3) := by decide +kernel
theorem dX6_press_99 : decode cX6_press 99 = .ok (.aload 5, 2) := by decide +kernel
theorem dX6_press_101 : decode cX6_press 101 = .ok (.dup, 1) := by decide +kernel
theorem dX6_press_102 : decode cX6_press 102 = .ok (.getfield 174, 3) := by decide +kernel
theorem dX6_press_105 : decode cX6_press 105 = .ok (.iconst 2, 1) := by decide +kernel
theorem dX6_press_106 : decode cX6_press 106 = .ok (.aload 6, 2) := by decide +kernel
theorem dX6_press_108 : decode cX6_press 108 = .ok (.getfield 177, 3) := by decide +kernel
theorem dX6_press_111 : decode cX6_press 111 = .ok (.imul, 1) := by decide +kernel
theorem dX6_press_112 : decode cX6_press 112 = .ok (.iadd, 1) := by decide +kernel
theorem dX6_press_113 : decode cX6_press 113 = .ok (.putfield 174, 3) := by decide +kernel
theorem dX6_press_116 : decode cX6_press 116 = .ok (.iload_n 3, 1) := by decide +kernel
theorem dX6_press_117 : decode cX6_press 117 = .ok (.bipush 20, 2) := by decide +kernel
theorem dX6_press_119 : decode cX6_press 119 = .ok (.aload 5, 2) := by decide +kernel
theorem dX6_press_121 : decode cX6_press 121 = .ok (.getfield 180, 3) := by decide +kernel
theorem dX6_press_124 : decode cX6_press 124 = .ok (.iconst 4, 1) := by decide +kernel
theorem dX6_press_125 : decode cX6_press 125 = .ok (.idiv, 1) := by decide +kernel
theorem dX6_press_126 : decode cX6_press 126 = .ok (.iadd, 1) := by decide +kernel
theorem dX6_press_127 : decode cX6_press 127 = .ok (.iload_n 2, 1) := by decide +kernel
theorem dX6_press_128 : decode cX6_press 128 = .ok (.iconst 3, 1) := by decide +kernel
theorem dX6_press_129 : decode cX6_press 129 = .ok (.idiv, 1) := by decide +kernel
theorem dX6_press_130 : decode cX6_press 130 = .ok (.isub, 1) := by decide +kernel
theorem dX6_press_131 : decode cX6_press 131 = .ok (.if_icmp .ge 18, 3) := by decide +kernel
theorem dX6_press_134 : decode cX6_press 134 = .ok (.aload 5, 2) := by decide +kernel
theorem dX6_press_136 : decode cX6_press 136 = .ok (.dup, 1) := by decide +kernel
theorem dX6_press_137 : decode cX6_press 137 = .ok (.getfield 174, 3) := by decide +kernel
theorem dX6_press_140 : decode cX6_press 140 = .ok (.aload 6, 2) := by decide +kernel
theorem dX6_press_142 : decode cX6_press 142 = .ok (.getfield 177, 3) := by decide +kernel
theorem dX6_press_145 : decode cX6_press 145 = .ok (.iadd, 1) := by decide +kernel
theorem dX6_press_146 : decode cX6_press 146 = .ok (.putfield 174, 3) := by decide +kernel
theorem dX6_press_149 : decode cX6_press 149 = .ok (.aload 5, 2) := by decide +kernel
theorem dX6_press_151 : decode cX6_press 151 = .ok (.getfield 174, 3) := by decide +kernel
theorem dX6_press_154 : decode cX6_press 154 = .ok (.ireturn, 1) := by decide +kernel
theorem dX6_slit_0 : decode cX6_slit 0 = .ok (.aload_n 0, 1) := by decide +kernel
theorem dX6_slit_1 : decode cX6_slit 1 = .ok (.iload_n 1, 1) := by decide +kernel
theorem dX6_slit_2 : decode cX6_slit 2 = .ok (.invokevirtual 113, 3) := by decide +kernel
theorem dX6_slit_5 : decode cX6_slit 5 = .ok (.astore_n 2, 1) := by decide +kernel
theorem dX6_slit_6 : decode cX6_slit 6 = .ok (.aload_n 2, 1) := by decide +kernel
theorem dX6_slit_7 : decode cX6_slit 7 = .ok (.getfield 174, 3) := by decide +kernel
theorem dX6_slit_10 : decode cX6_slit 10 = .ok (.ifCond .gt 11, 3) := by decide +kernel
theorem dX6_slit_13 : decode cX6_slit 13 = .ok (.new 168, 3) := by decide +kernel
theorem dX6_slit_16 : decode cX6_slit 16 = .ok (.dup, 1) := by decide +kernel
theorem dX6_slit_17 : decode cX6_slit 17 = .ok (.invokespecial 170, 3) := by decide +kernel
theorem dX6_slit_20 : decode cX6_slit 20 = .ok (.athrow, 1) := by decide +kernel
theorem dX6_slit_21 : decode cX6_slit 21 = .ok (.aload_n 2, 1) := by decide +kernel
theorem dX6_slit_22 : decode cX6_slit 22 = .ok (.dup, 1) := by decide +kernel
theorem dX6_slit_23 : decode cX6_slit 23 = .ok (.getfield 174, 3) := by decide +kernel
theorem dX6_slit_26 : decode cX6_slit 26 = .ok (.iconst 1, 1) := by decide +kernel
theorem dX6_slit_27 : decode cX6_slit 27 = .ok (.isub, 1) := by decide +kernel
theorem dX6_slit_28 : decode cX6_slit 28 = .ok (.putfield 174, 3) := by decide +kernel
theorem dX6_slit_31 : decode cX6_slit 31 = .ok (.aload_n 2, 1) := by decide +kernel
theorem dX6_slit_32 : decode cX6_slit 32 = .ok (.getfield 174, 3) := by decide +kernel
theorem dX6_slit_35 : decode cX6_slit 35 = .ok (.ireturn, 1) := by decide +kernel
theorem dX6_air_0 : decode cX6_air 0 = .ok (.iload_n 1, 1) := by decide +kernel
theorem dX6_air_1 : decode cX6_air 1 = .ok (.iconst 4, 1) := by decide +kernel
theorem dX6_air_2 : decode cX6_air 2 = .ok (.bipush 20, 2) := by decide +kernel
theorem dX6_air_4 : decode cX6_air 4 = .ok (.invokestatic 40, 3) := by decide +kernel
theorem dX6_air_7 : decode cX6_air 7 = .ok (.ifCond .ne 11, 3) := by decide +kernel
theorem dX6_air_10 : decode cX6_air 10 = .ok (.new 44, 3) := by decide +kernel
theorem dX6_air_13 : decode cX6_air 13 = .ok (.dup, 1) := by decide +kernel
theorem dX6_air_14 : decode cX6_air 14 = .ok (.invokespecial 46, 3) := by decide +kernel
theorem dX6_air_17 : decode cX6_air 17 = .ok (.athrow, 1) := by decide +kernel
theorem dX6_air_18 : decode cX6_air 18 = .ok (.aload_n 0, 1) := by decide +kernel
theorem dX6_air_19 : decode cX6_air 19 = .ok (.getfield 28, 3) := by decide +kernel
theorem dX6_air_22 : decode cX6_air 22 = .ok (.istore_n 2, 1) := by decide +kernel
theorem dX6_air_23 : decode cX6_air 23 = .ok (.aload_n 0, 1) := by decide +kernel
theorem dX6_air_24 : decode cX6_air 24 = .ok (.iload_n 1, 1) := by decide +kernel
theorem dX6_air_25 : decode cX6_air 25 = .ok (.putfield 28, 3) := by decide +kernel
theorem dX6_air_28 : decode cX6_air 28 = .ok (.iload_n 2, 1) := by decide +kernel
theorem dX6_air_29 : decode cX6_air 29 = .ok (.ireturn, 1) := by decide +kernel
theorem dX6_cup_0 : decode cX6_cup 0 = .ok (.aload_n 0, 1) := by decide +kernel
theorem dX6_cup_1 : decode cX6_cup 1 = .ok (.iload_n 1, 1) := by decide +kernel
theorem dX6_cup_2 : decode cX6_cup 2 = .ok (.invokevirtual 113, 3) := by decide +kernel
theorem dX6_cup_5 : decode cX6_cup 5 = .ok (.astore_n 3, 1) := by decide +kernel
theorem dX6_cup_6 : decode cX6_cup 6 = .ok (.iload_n 2, 1) := by decide +kernel
theorem dX6_cup_7 : decode cX6_cup 7 = .ok (.iconst 4, 1) := by decide +kernel
theorem dX6_cup_8 : decode cX6_cup 8 = .ok (.bipush 20, 2) := by decide +kernel
theorem dX6_cup_10 : decode cX6_cup 10 = .ok (.invokestatic 40, 3) := by decide +kernel
theorem dX6_cup_13 : decode cX6_cup 13 = .ok (.ifCond .ne 11, 3) := by decide +kernel
theorem dX6_cup_16 : decode cX6_cup 16 = .ok (.new 44, 3) := by decide +kernel
theorem dX6_cup_19 : decode cX6_cup 19 = .ok (.dup, 1) := by decide +kernel
theorem dX6_cup_20 : decode cX6_cup 20 = .ok (.invokespecial 46, 3) := by decide +kernel
theorem dX6_cup_23 : decode cX6_cup 23 = .ok (.athrow, 1) := by decide +kernel
theorem dX6_cup_24 : decode cX6_cup 24 = .ok (.aload_n 3, 1) := by decide +kernel
theorem dX6_cup_25 : decode cX6_cup 25 = .ok (.invokestatic 181, 3) := by decide +kernel
theorem dX6_cup_28 : decode cX6_cup 28 = .ok (.iload_n 2, 1) := by decide +kernel
theorem dX6_cup_29 : decode cX6_cup 29 = .ok (.invokevirtual 185, 3) := by decide +kernel
theorem dX6_cup_32 : decode cX6_cup 32 = .ok (.ireturn, 1) := by decide +kernel
theorem dX6_isFlat_0 : decode cX6_isFlat 0 = .ok (.aload_n 0, 1) := by decide +kernel
theorem dX6_isFlat_1 : decode cX6_isFlat 1 = .ok (.iload_n 1, 1) := by decide +kernel
theorem dX6_isFlat_2 : decode cX6_isFlat 2 = .ok (.invokevirtual 113, 3) := by decide +kernel
theorem dX6_isFlat_5 : decode cX6_isFlat 5 = .ok (.invokestatic 181, 3) := by decide +kernel
theorem dX6_isFlat_8 : decode cX6_isFlat 8 = .ok (.aload_n 0, 1) := by decide +kernel
theorem dX6_isFlat_9 : decode cX6_isFlat 9 = .ok (.getfield 28, 3) := by decide +kernel
theorem dX6_isFlat_12 : decode cX6_isFlat 12 = .ok (.invokevirtual 188, 3) := by decide +kernel
theorem dX6_isFlat_15 : decode cX6_isFlat 15 = .ok (.ireturn, 1) := by decide +kernel
theorem dX6_cupMonth_0 : decode cX6_cupMonth 0 = .ok (.aload_n 0, 1) := by decide +kernel
theorem dX6_cupMonth_1 : decode cX6_cupMonth 1 = .ok (.iload_n 1, 1) := by decide +kernel
theorem dX6_cupMonth_2 : decode cX6_cupMonth 2 = .ok (.invokevirtual 113, 3) := by decide +kernel
theorem dX6_cupMonth_5 : decode cX6_cupMonth 5 = .ok (.invokestatic 181, 3) := by decide +kernel
theorem dX6_cupMonth_8 : decode cX6_cupMonth 8 = .ok (.astore_n 2, 1) := by decide +kernel
theorem dX6_cupMonth_9 : decode cX6_cupMonth 9 = .ok (.iconst 0, 1) := by decide +kernel
theorem dX6_cupMonth_10 : decode cX6_cupMonth 10 = .ok (.istore_n 3, 1) := by decide +kernel
theorem dX6_cupMonth_11 : decode cX6_cupMonth 11 = .ok (.iload_n 3, 1) := by decide +kernel
theorem dX6_cupMonth_12 : decode cX6_cupMonth 12 = .ok (.getstatic 191, 3) := by decide +kernel
theorem dX6_cupMonth_15 : decode cX6_cupMonth 15 = .ok (.arraylength, 1) := by decide +kernel
theorem dX6_cupMonth_16 : decode cX6_cupMonth 16 = .ok (.if_icmp .ge 34, 3) := by decide +kernel
theorem dX6_cupMonth_19 : decode cX6_cupMonth 19 = .ok (.aload_n 2, 1) := by decide +kernel
theorem dX6_cupMonth_20 : decode cX6_cupMonth 20 = .ok (.aload_n 0, 1) := by decide +kernel
theorem dX6_cupMonth_21 : decode cX6_cupMonth 21 = .ok (.getfield 28, 3) := by decide +kernel
theorem dX6_cupMonth_24 : decode cX6_cupMonth 24 = .ok (.getstatic 191, 3) := by decide +kernel
theorem dX6_cupMonth_27 : decode cX6_cupMonth 27 = .ok (.iload_n 3, 1) := by decide +kernel
theorem dX6_cupMonth_28 : decode cX6_cupMonth 28 = .ok (.iaload, 1) := by decide +kernel
theorem dX6_cupMonth_29 : decode cX6_cupMonth 29 = .ok (.iadd, 1) := by decide +kernel
theorem dX6_cupMonth_30 : decode cX6_cupMonth 30 = .ok (.iconst 4, 1) := by decide +kernel
theorem dX6_cupMonth_31 : decode cX6_cupMonth 31 = .ok (.bipush 20, 2) := by decide +kernel
theorem dX6_cupMonth_33 : decode cX6_cupMonth 33 = .ok (.invokestatic 195, 3) := by decide +kernel
theorem dX6_cupMonth_36 : decode cX6_cupMonth 36 = .ok (.invokevirtual 188, 3) := by decide +kernel
theorem dX6_cupMonth_39 : decode cX6_cupMonth 39 = .ok (.ifCond .ne 5, 3) := by decide +kernel
theorem dX6_cupMonth_42 : decode cX6_cupMonth 42 = .ok (.iload_n 3, 1) := by decide +kernel
theorem dX6_cupMonth_43 : decode cX6_cupMonth 43 = .ok (.ireturn, 1) := by decide +kernel
theorem dX6_cupMonth_44 : decode cX6_cupMonth 44 = .ok (.iinc 3 1, 3) := by decide +kernel
theorem dX6_cupMonth_47 : decode cX6_cupMonth 47 = .ok (.goto (-36), 3) := by decide +kernel
theorem dX6_cupMonth_50 : decode cX6_cupMonth 50 = .ok (.new 168, 3) := by decide +kernel
theorem dX6_cupMonth_53 : decode cX6_cupMonth 53 = .ok (.dup, 1) := by decide +kernel
theorem dX6_cupMonth_54 : decode cX6_cupMonth 54 = .ok (.invokespecial 170, 3) := by decide +kernel
theorem dX6_cupMonth_57 : decode cX6_cupMonth 57 = .ok (.athrow, 1) := by decide +kernel
theorem dX6_scrape_0 : decode cX6_scrape 0 = .ok (.aload_n 0, 1) := by decide +kernel
theorem dX6_scrape_1 : decode cX6_scrape 1 = .ok (.iload_n 1, 1) := by decide +kernel
theorem dX6_scrape_2 : decode cX6_scrape 2 = .ok (.invokevirtual 113, 3) := by decide +kernel
theorem dX6_scrape_5 : decode cX6_scrape 5 = .ok (.astore_n 3, 1) := by decide +kernel
theorem dX6_scrape_6 : decode cX6_scrape 6 = .ok (.iload_n 2, 1) := by decide +kernel
theorem dX6_scrape_7 : decode cX6_scrape 7 = .ok (.iconst 1, 1) := by decide +kernel
theorem dX6_scrape_8 : decode cX6_scrape 8 = .ok (.bipush 99, 2) := by decide +kernel
theorem dX6_scrape_10 : decode cX6_scrape 10 = .ok (.invokestatic 40, 3) := by decide +kernel
theorem dX6_scrape_13 : decode cX6_scrape 13 = .ok (.ifCond .ne 11, 3) := by decide +kernel
theorem dX6_scrape_16 : decode cX6_scrape 16 = .ok (.new 44, 3) := by decide +kernel
theorem dX6_scrape_19 : decode cX6_scrape 19 = .ok (.dup, 1) := by decide +kernel
theorem dX6_scrape_20 : decode cX6_scrape 20 = .ok (.invokespecial 46, 3) := by decide +kernel
theorem dX6_scrape_23 : decode cX6_scrape 23 = .ok (.athrow, 1) := by decide +kernel
theorem dX6_scrape_24 : decode cX6_scrape 24 = .ok (.aload_n 3, 1) := by decide +kernel
theorem dX6_scrape_25 : decode cX6_scrape 25 = .ok (.getfield 162, 3) := by decide +kernel
theorem dX6_scrape_28 : decode cX6_scrape 28 = .ok (.ifCond .eq 10, 3) := by decide +kernel
theorem dX6_scrape_31 : decode cX6_scrape 31 = .ok (.aload_n 3, 1) := by decide +kernel
theorem dX6_scrape_32 : decode cX6_scrape 32 = .ok (.invokevirtual 199, 3) := by decide +kernel
theorem dX6_scrape_35 : decode cX6_scrape 35 = .ok (.ifCond .eq 11, 3) := by decide +kernel
theorem dX6_scrape_38 : decode cX6_scrape 38 = .ok (.new 73, 3) := by decide +kernel
theorem dX6_scrape_41 : decode cX6_scrape 41 = .ok (.dup, 1) := by decide +kernel
theorem dX6_scrape_42 : decode cX6_scrape 42 = .ok (.invokespecial 75, 3) := by decide +kernel
theorem dX6_scrape_45 : decode cX6_scrape 45 = .ok (.athrow, 1) := by decide +kernel
theorem dX6_scrape_46 : decode cX6_scrape 46 = .ok (.aload_n 3, 1) := by decide +kernel
theorem dX6_scrape_47 : decode cX6_scrape 47 = .ok (.iconst 0, 1) := by decide +kernel
theorem dX6_scrape_48 : decode cX6_scrape 48 = .ok (.aload_n 3, 1) := by decide +kernel
theorem dX6_scrape_49 : decode cX6_scrape 49 = .ok (.getfield 146, 3) := by decide +kernel
theorem dX6_scrape_52 : decode cX6_scrape 52 = .ok (.iload_n 2, 1) := by decide +kernel
theorem dX6_scrape_53 : decode cX6_scrape 53 = .ok (.isub, 1) := by decide +kernel
theorem dX6_scrape_54 : decode cX6_scrape 54 = .ok (.invokestatic 203, 3) := by decide +kernel
theorem dX6_scrape_57 : decode cX6_scrape 57 = .ok (.putfield 146, 3) := by decide +kernel
theorem dX6_scrape_60 : decode cX6_scrape 60 = .ok (.aload_n 3, 1) := by decide +kernel
theorem dX6_scrape_61 : decode cX6_scrape 61 = .ok (.getfield 146, 3) := by decide +kernel
theorem dX6_scrape_64 : decode cX6_scrape 64 = .ok (.ireturn, 1) := by decide +kernel
theorem dX6_isThrough_0 : decode cX6_isThrough 0 = .ok (.aload_n 0, 1) := by decide +kernel
theorem dX6_isThrough_1 : decode cX6_isThrough 1 = .ok (.iload_n 1, 1) := by decide +kernel
theorem dX6_isThrough_2 : decode cX6_isThrough 2 = .ok (.invokevirtual 113, 3) := by decide +kernel
theorem dX6_isThrough_5 : decode cX6_isThrough 5 = .ok (.invokevirtual 199, 3) := by decide +kernel
theorem dX6_isThrough_8 : decode cX6_isThrough 8 = .ok (.ireturn, 1) := by decide +kernel
theorem dX6_pad_0 : decode cX6_pad 0 = .ok (.aload_n 0, 1) := by decide +kernel
theorem dX6_pad_1 : decode cX6_pad 1 = .ok (.iload_n 1, 1) := by decide +kernel
theorem dX6_pad_2 : decode cX6_pad 2 = .ok (.invokevirtual 113, 3) := by decide +kernel
theorem dX6_pad_5 : decode cX6_pad 5 = .ok (.astore_n 3, 1) := by decide +kernel
theorem dX6_pad_6 : decode cX6_pad 6 = .ok (.iload_n 2, 1) := by decide +kernel
theorem dX6_pad_7 : decode cX6_pad 7 = .ok (.iconst 1, 1) := by decide +kernel
theorem dX6_pad_8 : decode cX6_pad 8 = .ok (.bipush 9, 2) := by decide +kernel
theorem dX6_pad_10 : decode cX6_pad 10 = .ok (.invokestatic 40, 3) := by decide +kernel
theorem dX6_pad_13 : decode cX6_pad 13 = .ok (.ifCond .ne 11, 3) := by decide +kernel
theorem dX6_pad_16 : decode cX6_pad 16 = .ok (.new 44, 3) := by decide +kernel
theorem dX6_pad_19 : decode cX6_pad 19 = .ok (.dup, 1) := by decide +kernel
theorem dX6_pad_20 : decode cX6_pad 20 = .ok (.invokespecial 46, 3) := by decide +kernel
theorem dX6_pad_23 : decode cX6_pad 23 = .ok (.athrow, 1) := by decide +kernel
theorem dX6_pad_24 : decode cX6_pad 24 = .ok (.aload_n 3, 1) := by decide +kernel
theorem dX6_pad_25 : decode cX6_pad 25 = .ok (.invokestatic 181, 3) := by decide +kernel
theorem dX6_pad_28 : decode cX6_pad 28 = .ok (.iload_n 2, 1) := by decide +kernel
theorem dX6_pad_29 : decode cX6_pad 29 = .ok (.invokevirtual 209, 3) := by decide +kernel
theorem dX6_pad_32 : decode cX6_pad 32 = .ok (.aload_n 3, 1) := by decide +kernel
theorem dX6_pad_33 : decode cX6_pad 33 = .ok (.getfield 213, 3) := by decide +kernel
theorem dX6_pad_36 : decode cX6_pad 36 = .ok (.ireturn, 1) := by decide +kernel
theorem dX6_rest_0 : decode cX6_rest 0 = .ok (.iconst 0, 1) := by decide +kernel
theorem dX6_rest_1 : decode cX6_rest 1 = .ok (.istore_n 1, 1) := by decide +kernel
theorem dX6_rest_2 : decode cX6_rest 2 = .ok (.iconst 0, 1) := by decide +kernel
theorem dX6_rest_3 : decode cX6_rest 3 = .ok (.istore_n 2, 1) := by decide +kernel
theorem dX6_rest_4 : decode cX6_rest 4 = .ok (.iload_n 2, 1) := by decide +kernel
theorem dX6_rest_5 : decode cX6_rest 5 = .ok (.aload_n 0, 1) := by decide +kernel
theorem dX6_rest_6 : decode cX6_rest 6 = .ok (.getfield 19, 3) := by decide +kernel
theorem dX6_rest_9 : decode cX6_rest 9 = .ok (.invokevirtual 47, 3) := by decide +kernel
theorem dX6_rest_12 : decode cX6_rest 12 = .ok (.if_icmp .ge 36, 3) := by decide +kernel
theorem dX6_rest_15 : decode cX6_rest 15 = .ok (.aload_n 0, 1) := by decide +kernel
theorem dX6_rest_16 : decode cX6_rest 16 = .ok (.getfield 19, 3) := by decide +kernel
theorem dX6_rest_19 : decode cX6_rest 19 = .ok (.iload_n 2, 1) := by decide +kernel
theorem dX6_rest_20 : decode cX6_rest 20 = .ok (.invokevirtual 216, 3) := by decide +kernel
theorem dX6_rest_23 : decode cX6_rest 23 = .ok (.checkcast 108, 3) := by decide +kernel
theorem dX6_rest_26 : decode cX6_rest 26 = .ok (.astore_n 3, 1) := by decide +kernel
theorem dX6_rest_27 : decode cX6_rest 27 = .ok (.aload_n 3, 1) := by decide +kernel
theorem dX6_rest_28 : decode cX6_rest 28 = .ok (.getfield 220, 3) := by decide +kernel
theorem dX6_rest_31 : decode cX6_rest 31 = .ok (.ifCond .le 6, 3) := by decide +kernel
theorem dX6_rest_34 : decode cX6_rest 34 = .ok (.iinc 1 1, 3) := by decide +kernel
theorem dX6_rest_37 : decode cX6_rest 37 = .ok (.aload_n 3, 1) := by decide +kernel
theorem dX6_rest_38 : decode cX6_rest 38 = .ok (.iconst 0, 1) := by decide +kernel
theorem dX6_rest_39 : decode cX6_rest 39 = .ok (.putfield 220, 3) := by decide +kernel
theorem dX6_rest_42 : decode cX6_rest 42 = .ok (.iinc 2 1, 3) := by decide +kernel
theorem dX6_rest_45 : decode cX6_rest 45 = .ok (.goto (-41), 3) := by decide +kernel
theorem dX6_rest_48 : decode cX6_rest 48 = .ok (.iload_n 1, 1) := by decide +kernel
theorem dX6_rest_49 : decode cX6_rest 49 = .ok (.ireturn, 1) := by decide +kernel
theorem dX6_ghosts_0 : decode cX6_ghosts 0 = .ok (.aload_n 0, 1) := by decide +kernel
theorem dX6_ghosts_1 : decode cX6_ghosts 1 = .ok (.iload_n 1, 1) := by decide +kernel
theorem dX6_ghosts_2 : decode cX6_ghosts 2 = .ok (.invokevirtual 113, 3) := by decide +kernel
theorem dX6_ghosts_5 : decode cX6_ghosts 5 = .ok (.getfield 223, 3) := by decide +kernel
theorem dX6_ghosts_8 : decode cX6_ghosts 8 = .ok (.ireturn, 1) := by decide +kernel
theorem dX6_picture_0 : decode cX6_picture 0 = .ok (.aload_n 0, 1) := by decide +kernel
theorem dX6_picture_1 : decode cX6_picture 1 = .ok (.getfield 22, 3) := by decide +kernel
theorem dX6_picture_4 : decode cX6_picture 4 = .ok (.invokevirtual 47, 3) := by decide +kernel
theorem dX6_picture_7 : decode cX6_picture 7 = .ok (.iconst 4, 1) := by decide +kernel
theorem dX6_picture_8 : decode cX6_picture 8 = .ok (.if_icmp .lt 11, 3) := by decide +kernel
theorem dX6_picture_11 : decode cX6_picture 11 = .ok (.new 51, 3) := by decide +kernel
theorem dX6_picture_14 : decode cX6_picture 14 = .ok (.dup, 1) := by decide +kernel
theorem dX6_picture_15 : decode cX6_picture 15 = .ok (.invokespecial 53, 3) := by decide +kernel
theorem dX6_picture_18 : decode cX6_picture 18 = .ok (.athrow, 1) := by decide +kernel
theorem dX6_picture_19 : decode cX6_picture 19 = .ok (.aload_n 0, 1) := by decide +kernel
theorem dX6_picture_20 : decode cX6_picture 20 = .ok (.getfield 22, 3) := by decide +kernel
theorem dX6_picture_23 : decode cX6_picture 23 = .ok (.new 226, 3) := by decide +kernel
theorem dX6_picture_26 : decode cX6_picture 26 = .ok (.dup, 1) := by decide +kernel
theorem dX6_picture_27 : decode cX6_picture 27 = .ok (.invokespecial 228, 3) := by decide +kernel
theorem dX6_picture_30 : decode cX6_picture 30 = .ok (.invokevirtual 59, 3) := by decide +kernel
theorem dX6_picture_33 : decode cX6_picture 33 = .ok (.pop, 1) := by decide +kernel
theorem dX6_picture_34 : decode cX6_picture 34 = .ok (.aload_n 0, 1) := by decide +kernel
theorem dX6_picture_35 : decode cX6_picture 35 = .ok (.getfield 22, 3) := by decide +kernel
theorem dX6_picture_38 : decode cX6_picture 38 = .ok (.invokevirtual 47, 3) := by decide +kernel
theorem dX6_picture_41 : decode cX6_picture 41 = .ok (.iconst 1, 1) := by decide +kernel
theorem dX6_picture_42 : decode cX6_picture 42 = .ok (.isub, 1) := by decide +kernel
theorem dX6_picture_43 : decode cX6_picture 43 = .ok (.ireturn, 1) := by decide +kernel
theorem dX6_draw_0 : decode cX6_draw 0 = .ok (.aload_n 0, 1) := by decide +kernel
theorem dX6_draw_1 : decode cX6_draw 1 = .ok (.iload_n 1, 1) := by decide +kernel
theorem dX6_draw_2 : decode cX6_draw 2 = .ok (.invokevirtual 229, 3) := by decide +kernel
theorem dX6_draw_5 : decode cX6_draw 5 = .ok (.astore 6, 2) := by decide +kernel
theorem dX6_draw_7 : decode cX6_draw 7 = .ok (.iload_n 2, 1) := by decide +kernel
theorem dX6_draw_8 : decode cX6_draw 8 = .ok (.iload_n 3, 1) := by decide +kernel
theorem dX6_draw_9 : decode cX6_draw 9 = .ok (.invokestatic 233, 3) := by decide +kernel
theorem dX6_draw_12 : decode cX6_draw 12 = .ok (.ifCond .eq 27, 3) := by decide +kernel
theorem dX6_draw_15 : decode cX6_draw 15 = .ok (.iload 4, 2) := by decide +kernel
theorem dX6_draw_17 : decode cX6_draw 17 = .ok (.iconst 1, 1) := by decide +kernel
theorem dX6_draw_18 : decode cX6_draw 18 = .ok (.bipush 8, 2) := by decide +kernel
theorem dX6_draw_20 : decode cX6_draw 20 = .ok (.invokestatic 40, 3) := by decide +kernel
theorem dX6_draw_23 : decode cX6_draw 23 = .ok (.ifCond .eq 16, 3) := by decide +kernel
theorem dX6_draw_26 : decode cX6_draw 26 = .ok (.iload_n 3, 1) := by decide +kernel
theorem dX6_draw_27 : decode cX6_draw 27 = .ok (.iload 4, 2) := by decide +kernel
theorem dX6_draw_29 : decode cX6_draw 29 = .ok (.iadd, 1) := by decide +kernel
theorem dX6_draw_30 : decode cX6_draw 30 = .ok (.bipush 8, 2) := by decide +kernel
theorem dX6_draw_32 : decode cX6_draw 32 = .ok (.if_icmp .gt 7, 3) := by decide +kernel
theorem dX6_draw_35 : decode cX6_draw 35 = .ok (.iconst 1, 1) := by decide +kernel
theorem dX6_draw_36 : decode cX6_draw 36 = .ok (.goto 4, 3) := by decide +kernel
theorem dX6_draw_39 : decode cX6_draw 39 = .ok (.iconst 0, 1) := by decide +kernel
theorem dX6_draw_40 : decode cX6_draw 40 = .ok (.istore 7, 2) := by decide +kernel
theorem dX6_draw_42 : decode cX6_draw 42 = .ok (.iload 7, 2) := by decide +kernel
theorem dX6_draw_44 : decode cX6_draw 44 = .ok (.ifCond .eq 11, 3) := by decide +kernel
theorem dX6_draw_47 : decode cX6_draw 47 = .ok (.iload 5, 2) := by decide +kernel
theorem dX6_draw_49 : decode cX6_draw 49 = .ok (.invokestatic 237, 3) := by decide +kernel
theorem dX6_draw_52 : decode cX6_draw 52 = .ok (.ifCond .ne 11, 3) := by decide +kernel
theorem dX6_draw_55 : decode cX6_draw 55 = .ok (.new 44, 3) := by decide +kernel
theorem dX6_draw_58 : decode cX6_draw 58 = .ok (.dup, 1) := by decide +kernel
theorem dX6_draw_59 : decode cX6_draw 59 = .ok (.invokespecial 46, 3) := by decide +kernel
theorem dX6_draw_62 : decode cX6_draw 62 = .ok (.athrow, 1) := by decide +kernel
theorem dX6_draw_63 : decode cX6_draw 63 = .ok (.aload 6, 2) := by decide +kernel
theorem dX6_draw_65 : decode cX6_draw 65 = .ok (.getfield 241, 3) := by decide +kernel
theorem dX6_draw_68 : decode cX6_draw 68 = .ok (.ifnull 11, 3) := by decide +kernel
theorem dX6_draw_71 : decode cX6_draw 71 = .ok (.new 73, 3) := by decide +kernel
theorem dX6_draw_74 : decode cX6_draw 74 = .ok (.dup, 1) := by decide +kernel
theorem dX6_draw_75 : decode cX6_draw 75 = .ok (.invokespecial 75, 3) := by decide +kernel
theorem dX6_draw_78 : decode cX6_draw 78 = .ok (.athrow, 1) := by decide +kernel
theorem dX6_draw_79 : decode cX6_draw 79 = .ok (.aload 6, 2) := by decide +kernel
theorem dX6_draw_81 : decode cX6_draw 81 = .ok (.iload_n 2, 1) := by decide +kernel
theorem dX6_draw_82 : decode cX6_draw 82 = .ok (.iload_n 3, 1) := by decide +kernel
theorem dX6_draw_83 : decode cX6_draw 83 = .ok (.iload 4, 2) := by decide +kernel
theorem dX6_draw_85 : decode cX6_draw 85 = .ok (.iload 5, 2) := by decide +kernel
theorem dX6_draw_87 : decode cX6_draw 87 = .ok (.bipush 97, 2) := by decide +kernel
theorem dX6_draw_89 : decode cX6_draw 89 = .ok (.isub, 1) := by decide +kernel
theorem dX6_draw_90 : decode cX6_draw 90 = .ok (.invokevirtual 244, 3) := by decide +kernel
theorem dX6_draw_93 : decode cX6_draw 93 = .ok (.aload 6, 2) := by decide +kernel
theorem dX6_draw_95 : decode cX6_draw 95 = .ok (.getfield 248, 3) := by decide +kernel
theorem dX6_draw_98 : decode cX6_draw 98 = .ok (.ireturn, 1) := by decide +kernel
theorem dX6_fieldAt_0 : decode cX6_fieldAt 0 = .ok (.bipush 97, 2) := by decide +kernel
theorem dX6_fieldAt_2 : decode cX6_fieldAt 2 = .ok (.aload_n 0, 1) := by decide +kernel
theorem dX6_fieldAt_3 : decode cX6_fieldAt 3 = .ok (.iload_n 1, 1) := by decide +kernel
theorem dX6_fieldAt_4 : decode cX6_fieldAt 4 = .ok (.iload_n 2, 1) := by decide +kernel
theorem dX6_fieldAt_5 : decode cX6_fieldAt 5 = .ok (.iload_n 3, 1) := by decide +kernel
theorem dX6_fieldAt_6 : decode cX6_fieldAt 6 = .ok (.invokevirtual 251, 3) := by decide +kernel
theorem dX6_fieldAt_9 : decode cX6_fieldAt 9 = .ok (.iload_n 2, 1) := by decide +kernel
theorem dX6_fieldAt_10 : decode cX6_fieldAt 10 = .ok (.bipush 8, 2) := by decide +kernel
theorem dX6_fieldAt_12 : decode cX6_fieldAt 12 = .ok (.imul, 1) := by decide +kernel
theorem dX6_fieldAt_13 : decode cX6_fieldAt 13 = .ok (.iload_n 3, 1) := by decide +kernel
theorem dX6_fieldAt_14 : decode cX6_fieldAt 14 = .ok (.iadd, 1) := by decide +kernel
theorem dX6_fieldAt_15 : decode cX6_fieldAt 15 = .ok (.invokevirtual 255, 3) := by decide +kernel
theorem dX6_fieldAt_18 : decode cX6_fieldAt 18 = .ok (.iadd, 1) := by decide +kernel
theorem dX6_fieldAt_19 : decode cX6_fieldAt 19 = .ok (.i2c, 1) := by decide +kernel
theorem dX6_fieldAt_20 : decode cX6_fieldAt 20 = .ok (.ireturn, 1) := by decide +kernel
theorem dX6_pieces_0 : decode cX6_pieces 0 = .ok (.aload_n 0, 1) := by decide +kernel
theorem dX6_pieces_1 : decode cX6_pieces 1 = .ok (.iload_n 1, 1) := by decide +kernel
theorem dX6_pieces_2 : decode cX6_pieces 2 = .ok (.invokevirtual 229, 3) := by decide +kernel
theorem dX6_pieces_5 : decode cX6_pieces 5 = .ok (.getfield 248, 3) := by decide +kernel
theorem dX6_pieces_8 : decode cX6_pieces 8 = .ok (.ireturn, 1) := by decide +kernel
theorem dX6_islands_0 : decode cX6_islands 0 = .ok (.aload_n 0, 1) := by decide +kernel
theorem dX6_islands_1 : decode cX6_islands 1 = .ok (.iload_n 1, 1) := by decide +kernel
theorem dX6_islands_2 : decode cX6_islands 2 = .ok (.invokevirtual 229, 3) := by decide +kernel
theorem dX6_islands_5 : decode cX6_islands 5 = .ok (.getfield 258, 3) := by decide +kernel
theorem dX6_islands_8 : decode cX6_islands 8 = .ok (.ireturn, 1) := by decide +kernel
theorem dX6_saw_0 : decode cX6_saw 0 = .ok (.aload_n 0, 1) := by decide +kernel
theorem dX6_saw_1 : decode cX6_saw 1 = .ok (.iload_n 1, 1) := by decide +kernel
theorem dX6_saw_2 : decode cX6_saw 2 = .ok (.invokevirtual 229, 3) := by decide +kernel
theorem dX6_saw_5 : decode cX6_saw 5 = .ok (.astore 5, 2) := by decide +kernel
theorem dX6_saw_7 : decode cX6_saw 7 = .ok (.aload_n 0, 1) := by decide +kernel
theorem dX6_saw_8 : decode cX6_saw 8 = .ok (.iload_n 2, 1) := by decide +kernel
theorem dX6_saw_9 : decode cX6_saw 9 = .ok (.iload_n 3, 1) := by decide +kernel
theorem dX6_saw_10 : decode cX6_saw 10 = .ok (.iload 4, 2) := by decide +kernel
theorem dX6_saw_12 : decode cX6_saw 12 = .ok (.invokevirtual 117, 3) := by decide +kernel
theorem dX6_saw_15 : decode cX6_saw 15 = .ok (.astore 6, 2) := by decide +kernel
theorem dX6_saw_17 : decode cX6_saw 17 = .ok (.iload 4, 2) := by decide +kernel
theorem dX6_saw_19 : decode cX6_saw 19 = .ok (.iconst 2, 1) := by decide +kernel
theorem dX6_saw_20 : decode cX6_saw 20 = .ok (.bipush 8, 2) := by decide +kernel
theorem dX6_saw_22 : decode cX6_saw 22 = .ok (.invokestatic 40, 3) := by decide +kernel
theorem dX6_saw_25 : decode cX6_saw 25 = .ok (.ifCond .ne 11, 3) := by decide +kernel
theorem dX6_saw_28 : decode cX6_saw 28 = .ok (.new 44, 3) := by decide +kernel
theorem dX6_saw_31 : decode cX6_saw 31 = .ok (.dup, 1) := by decide +kernel
theorem dX6_saw_32 : decode cX6_saw 32 = .ok (.invokespecial 46, 3) := by decide +kernel
theorem dX6_saw_35 : decode cX6_saw 35 = .ok (.athrow, 1) := by decide +kernel
theorem dX6_saw_36 : decode cX6_saw 36 = .ok (.aload 5, 2) := by decide +kernel
theorem dX6_saw_38 : decode cX6_saw 38 = .ok (.getfield 241, 3) := by decide +kernel
theorem dX6_saw_41 : decode cX6_saw 41 = .ok (.ifnonnull 16, 3) := by decide +kernel
theorem dX6_saw_44 : decode cX6_saw 44 = .ok (.aload 6, 2) := by decide +kernel
theorem dX6_saw_46 : decode cX6_saw 46 = .ok (.iload_n 3, 1) := by decide +kernel
theorem dX6_saw_47 : decode cX6_saw 47 = .ok (.iload 4, 2) := by decide +kernel
theorem dX6_saw_49 : decode cX6_saw 49 = .ok (.bipush 80, 2) := by decide +kernel
theorem dX6_saw_51 : decode cX6_saw 51 = .ok (.invokevirtual 261, 3) := by decide +kernel
theorem dX6_saw_54 : decode cX6_saw 54 = .ok (.ifCond .ne 11, 3) := by decide +kernel
theorem dX6_saw_57 : decode cX6_saw 57 = .ok (.new 73, 3) := by decide +kernel
theorem dX6_saw_60 : decode cX6_saw 60 = .ok (.dup, 1) := by decide +kernel
theorem dX6_saw_61 : decode cX6_saw 61 = .ok (.invokespecial 75, 3) := by decide +kernel
theorem dX6_saw_64 : decode cX6_saw 64 = .ok (.athrow, 1) := by decide +kernel
theorem dX6_saw_65 : decode cX6_saw 65 = .ok (.aload 5, 2) := by decide +kernel
theorem dX6_saw_67 : decode cX6_saw 67 = .ok (.new 131, 3) := by decide +kernel
theorem dX6_saw_70 : decode cX6_saw 70 = .ok (.dup, 1) := by decide +kernel
theorem dX6_saw_71 : decode cX6_saw 71 = .ok (.aload 6, 2) := by decide +kernel
theorem dX6_saw_73 : decode cX6_saw 73 = .ok (.iload_n 3, 1) := by decide +kernel
theorem dX6_saw_74 : decode cX6_saw 74 = .ok (.iload 4, 2) := by decide +kernel
theorem dX6_saw_76 : decode cX6_saw 76 = .ok (.invokespecial 133, 3) := by decide +kernel
theorem dX6_saw_79 : decode cX6_saw 79 = .ok (.putfield 241, 3) := by decide +kernel
theorem dX6_saw_82 : decode cX6_saw 82 = .ok (.bipush 64, 2) := by decide +kernel
theorem dX6_saw_84 : decode cX6_saw 84 = .ok (.iload 4, 2) := by decide +kernel
theorem dX6_saw_86 : decode cX6_saw 86 = .ok (.imul, 1) := by decide +kernel
theorem dX6_saw_87 : decode cX6_saw 87 = .ok (.istore 7, 2) := by decide +kernel
theorem dX6_saw_89 : decode cX6_saw 89 = .ok (.aload 6, 2) := by decide +kernel
theorem dX6_saw_91 : decode cX6_saw 91 = .ok (.iload_n 3, 1) := by decide +kernel
theorem dX6_saw_92 : decode cX6_saw 92 = .ok (.iload 4, 2) := by decide +kernel
theorem dX6_saw_94 : decode cX6_saw 94 = .ok (.invokevirtual 264, 3) := by decide +kernel
theorem dX6_saw_97 : decode cX6_saw 97 = .ok (.iload 7, 2) := by decide +kernel
theorem dX6_saw_99 : decode cX6_saw 99 = .ok (.isub, 1) := by decide +kernel
theorem dX6_saw_100 : decode cX6_saw 100 = .ok (.istore 8, 2) := by decide +kernel
theorem dX6_saw_102 : decode cX6_saw 102 = .ok (.aload_n 0, 1) := by decide +kernel
theorem dX6_saw_103 : decode cX6_saw 103 = .ok (.dup, 1) := by decide +kernel
theorem dX6_saw_104 : decode cX6_saw 104 = .ok (.getfield 267, 3) := by decide +kernel
theorem dX6_saw_107 : decode cX6_saw 107 = .ok (.iload 7, 2) := by decide +kernel
theorem dX6_saw_109 : decode cX6_saw 109 = .ok (.iadd, 1) := by decide +kernel
theorem dX6_saw_110 : decode cX6_saw 110 = .ok (.putfield 267, 3) := by decide +kernel
theorem dX6_saw_113 : decode cX6_saw 113 = .ok (.aload_n 0, 1) := by decide +kernel
theorem dX6_saw_114 : decode cX6_saw 114 = .ok (.dup, 1) := by decide +kernel
theorem dX6_saw_115 : decode cX6_saw 115 = .ok (.getfield 270, 3) := by decide +kernel
theorem dX6_saw_118 : decode cX6_saw 118 = .ok (.iload 8, 2) := by decide +kernel
theorem dX6_saw_120 : decode cX6_saw 120 = .ok (.iadd, 1) := by decide +kernel
theorem dX6_saw_121 : decode cX6_saw 121 = .ok (.putfield 270, 3) := by decide +kernel
theorem dX6_saw_124 : decode cX6_saw 124 = .ok (.iload 8, 2) := by decide +kernel
theorem dX6_saw_126 : decode cX6_saw 126 = .ok (.ireturn, 1) := by decide +kernel
theorem dX6_leafAt_0 : decode cX6_leafAt 0 = .ok (.aload_n 0, 1) := by decide +kernel
theorem dX6_leafAt_1 : decode cX6_leafAt 1 = .ok (.iload_n 1, 1) := by decide +kernel
theorem dX6_leafAt_2 : decode cX6_leafAt 2 = .ok (.iload_n 3, 1) := by decide +kernel
theorem dX6_leafAt_3 : decode cX6_leafAt 3 = .ok (.iload 4, 2) := by decide +kernel
theorem dX6_leafAt_5 : decode cX6_leafAt 5 = .ok (.invokevirtual 251, 3) := by decide +kernel
theorem dX6_leafAt_8 : decode cX6_leafAt 8 = .ok (.astore 5, 2) := by decide +kernel
theorem dX6_leafAt_10 : decode cX6_leafAt 10 = .ok (.aload 5, 2) := by decide +kernel
theorem dX6_leafAt_12 : decode cX6_leafAt 12 = .ok (.iload_n 2, 1) := by decide +kernel
theorem dX6_leafAt_13 : decode cX6_leafAt 13 = .ok (.invokestatic 273, 3) := by decide +kernel
theorem dX6_leafAt_16 : decode cX6_leafAt 16 = .ok (.astore 6, 2) := by decide +kernel
theorem dX6_leafAt_18 : decode cX6_leafAt 18 = .ok (.aload 6, 2) := by decide +kernel
theorem dX6_leafAt_20 : decode cX6_leafAt 20 = .ok (.aload 5, 2) := by decide +kernel
theorem dX6_leafAt_22 : decode cX6_leafAt 22 = .ok (.iload_n 3, 1) := by decide +kernel
theorem dX6_leafAt_23 : decode cX6_leafAt 23 = .ok (.bipush 8, 2) := by decide +kernel
theorem dX6_leafAt_25 : decode cX6_leafAt 25 = .ok (.imul, 1) := by decide +kernel
theorem dX6_leafAt_26 : decode cX6_leafAt 26 = .ok (.iload 4, 2) := by decide +kernel
theorem dX6_leafAt_28 : decode cX6_leafAt 28 = .ok (.iadd, 1) := by decide +kernel
theorem dX6_leafAt_29 : decode cX6_leafAt 29 = .ok (.invokevirtual 255, 3) := by decide +kernel
theorem dX6_leafAt_32 : decode cX6_leafAt 32 = .ok (.iload_n 2, 1) := by decide +kernel
theorem dX6_leafAt_33 : decode cX6_leafAt 33 = .ok (.invokevirtual 277, 3) := by decide +kernel
theorem dX6_leafAt_36 : decode cX6_leafAt 36 = .ok (.ireturn, 1) := by decide +kernel
theorem dX6_contrast_0 : decode cX6_contrast 0 = .ok (.aload_n 0, 1) := by decide +kernel
theorem dX6_contrast_1 : decode cX6_contrast 1 = .ok (.iload_n 1, 1) := by decide +kernel
theorem dX6_contrast_2 : decode cX6_contrast 2 = .ok (.invokevirtual 229, 3) := by decide +kernel
theorem dX6_contrast_5 : decode cX6_contrast 5 = .ok (.astore_n 3, 1) := by decide +kernel
theorem dX6_contrast_6 : decode cX6_contrast 6 = .ok (.aload_n 3, 1) := by decide +kernel
theorem dX6_contrast_7 : decode cX6_contrast 7 = .ok (.iload_n 2, 1) := by decide +kernel
theorem dX6_contrast_8 : decode cX6_contrast 8 = .ok (.invokestatic 273, 3) := by decide +kernel
theorem dX6_contrast_11 : decode cX6_contrast 11 = .ok (.astore 4, 2) := by decide +kernel
theorem dX6_contrast_13 : decode cX6_contrast 13 = .ok (.iconst 0, 1) := by decide +kernel
theorem dX6_contrast_14 : decode cX6_contrast 14 = .ok (.istore 5, 2) := by decide +kernel
theorem dX6_contrast_16 : decode cX6_contrast 16 = .ok (.iconst 0, 1) := by decide +kernel
theorem dX6_contrast_17 : decode cX6_contrast 17 = .ok (.istore 6, 2) := by decide +kernel
theorem dX6_contrast_19 : decode cX6_contrast 19 = .ok (.iload 6, 2) := by decide +kernel
theorem dX6_contrast_21 : decode cX6_contrast 21 = .ok (.bipush 64, 2) := by decide +kernel
theorem dX6_contrast_23 : decode cX6_contrast 23 = .ok (.if_icmp .ge 49, 3) := by decide +kernel
theorem dX6_contrast_26 : decode cX6_contrast 26 = .ok (.iload 5, 2) := by decide +kernel
theorem dX6_contrast_28 : decode cX6_contrast 28 = .ok (.aload_n 3, 1) := by decide +kernel
theorem dX6_contrast_29 : decode cX6_contrast 29 = .ok (.aload 4, 2) := by decide +kernel
theorem dX6_contrast_31 : decode cX6_contrast 31 = .ok (.iload_n 2, 1) := by decide +kernel
theorem dX6_contrast_32 : decode cX6_contrast 32 = .ok (.iload 6, 2) := by decide +kernel
theorem dX6_contrast_34 : decode cX6_contrast 34 = .ok (.iload 6, 2) := by decide +kernel
theorem dX6_contrast_36 : decode cX6_contrast 36 = .ok (.iconst 0, 1) := by decide +kernel
theorem dX6_contrast_37 : decode cX6_contrast 37 = .ok (.invokestatic 280, 3) := by decide +kernel
theorem dX6_contrast_40 : decode cX6_contrast 40 = .ok (.invokestatic 283, 3) := by decide +kernel
theorem dX6_contrast_43 : decode cX6_contrast 43 = .ok (.iadd, 1) := by decide +kernel
theorem dX6_contrast_44 : decode cX6_contrast 44 = .ok (.istore 5, 2) := by decide +kernel
theorem dX6_contrast_46 : decode cX6_contrast 46 = .ok (.iload 5, 2) := by decide +kernel
theorem dX6_contrast_48 : decode cX6_contrast 48 = .ok (.aload_n 3, 1) := by decide +kernel
theorem dX6_contrast_49 : decode cX6_contrast 49 = .ok (.aload 4, 2) := by decide +kernel
theorem dX6_contrast_51 : decode cX6_contrast 51 = .ok (.iload_n 2, 1) := by decide +kernel
theorem dX6_contrast_52 : decode cX6_contrast 52 = .ok (.iload 6, 2) := by decide +kernel
theorem dX6_contrast_54 : decode cX6_contrast 54 = .ok (.iload 6, 2) := by decide +kernel
theorem dX6_contrast_56 : decode cX6_contrast 56 = .ok (.iconst 1, 1) := by decide +kernel
theorem dX6_contrast_57 : decode cX6_contrast 57 = .ok (.invokestatic 280, 3) := by decide +kernel
theorem dX6_contrast_60 : decode cX6_contrast 60 = .ok (.invokestatic 283, 3) := by decide +kernel
theorem dX6_contrast_63 : decode cX6_contrast 63 = .ok (.iadd, 1) := by decide +kernel
theorem dX6_contrast_64 : decode cX6_contrast 64 = .ok (.istore 5, 2) := by decide +kernel
theorem dX6_contrast_66 : decode cX6_contrast 66 = .ok (.iinc 6 1, 3) := by decide +kernel
theorem dX6_contrast_69 : decode cX6_contrast 69 = .ok (.goto (-50), 3) := by decide +kernel
theorem dX6_contrast_72 : decode cX6_contrast 72 = .ok (.iload 5, 2) := by decide +kernel
theorem dX6_contrast_74 : decode cX6_contrast 74 = .ok (.ireturn, 1) := by decide +kernel
theorem dX6_sand_0 : decode cX6_sand 0 = .ok (.aload_n 0, 1) := by decide +kernel
theorem dX6_sand_1 : decode cX6_sand 1 = .ok (.iload_n 1, 1) := by decide +kernel
theorem dX6_sand_2 : decode cX6_sand 2 = .ok (.invokevirtual 229, 3) := by decide +kernel
theorem dX6_sand_5 : decode cX6_sand 5 = .ok (.astore 5, 2) := by decide +kernel
theorem dX6_sand_7 : decode cX6_sand 7 = .ok (.iload_n 2, 1) := by decide +kernel
theorem dX6_sand_8 : decode cX6_sand 8 = .ok (.invokestatic 237, 3) := by decide +kernel
theorem dX6_sand_11 : decode cX6_sand 11 = .ok (.ifCond .eq 26, 3) := by decide +kernel
theorem dX6_sand_14 : decode cX6_sand 14 = .ok (.iload_n 3, 1) := by decide +kernel
theorem dX6_sand_15 : decode cX6_sand 15 = .ok (.bipush 100, 2) := by decide +kernel
theorem dX6_sand_17 : decode cX6_sand 17 = .ok (.sipush 300, 3) := by decide +kernel
theorem dX6_sand_20 : decode cX6_sand 20 = .ok (.invokestatic 40, 3) := by decide +kernel
theorem dX6_sand_23 : decode cX6_sand 23 = .ok (.ifCond .eq 14, 3) := by decide +kernel
theorem dX6_sand_26 : decode cX6_sand 26 = .ok (.iload 4, 2) := by decide +kernel
theorem dX6_sand_28 : decode cX6_sand 28 = .ok (.iconst 1, 1) := by decide +kernel
theorem dX6_sand_29 : decode cX6_sand 29 = .ok (.bipush 60, 2) := by decide +kernel
theorem dX6_sand_31 : decode cX6_sand 31 = .ok (.invokestatic 40, 3) := by decide +kernel
theorem dX6_sand_34 : decode cX6_sand 34 = .ok (.ifCond .ne 11, 3) := by decide +kernel
theorem dX6_sand_37 : decode cX6_sand 37 = .ok (.new 44, 3) := by decide +kernel
theorem dX6_sand_40 : decode cX6_sand 40 = .ok (.dup, 1) := by decide +kernel
theorem dX6_sand_41 : decode cX6_sand 41 = .ok (.invokespecial 46, 3) := by decide +kernel
theorem dX6_sand_44 : decode cX6_sand 44 = .ok (.athrow, 1) := by decide +kernel
theorem dX6_sand_45 : decode cX6_sand 45 = .ok (.aload 5, 2) := by decide +kernel
theorem dX6_sand_47 : decode cX6_sand 47 = .ok (.getfield 241, 3) := by decide +kernel
theorem dX6_sand_50 : decode cX6_sand 50 = .ok (.ifnonnull 11, 3) := by decide +kernel
theorem dX6_sand_53 : decode cX6_sand 53 = .ok (.new 73, 3) := by decide +kernel
theorem dX6_sand_56 : decode cX6_sand 56 = .ok (.dup, 1) := by decide +kernel
theorem dX6_sand_57 : decode cX6_sand 57 = .ok (.invokespecial 75, 3) := by decide +kernel
theorem dX6_sand_60 : decode cX6_sand 60 = .ok (.athrow, 1) := by decide +kernel
theorem dX6_sand_61 : decode cX6_sand 61 = .ok (.aload 5, 2) := by decide +kernel
theorem dX6_sand_63 : decode cX6_sand 63 = .ok (.iload_n 2, 1) := by decide +kernel
theorem dX6_sand_64 : decode cX6_sand 64 = .ok (.bipush 97, 2) := by decide +kernel
theorem dX6_sand_66 : decode cX6_sand 66 = .ok (.isub, 1) := by decide +kernel
theorem dX6_sand_67 : decode cX6_sand 67 = .ok (.iload_n 3, 1) := by decide +kernel
theorem dX6_sand_68 : decode cX6_sand 68 = .ok (.bipush 100, 2) := by decide +kernel
theorem dX6_sand_70 : decode cX6_sand 70 = .ok (.isub, 1) := by decide +kernel
theorem dX6_sand_71 : decode cX6_sand 71 = .ok (.iload 4, 2) := by decide +kernel
theorem dX6_sand_73 : decode cX6_sand 73 = .ok (.imul, 1) := by decide +kernel
theorem dX6_sand_74 : decode cX6_sand 74 = .ok (.bipush 50, 2) := by decide +kernel
theorem dX6_sand_76 : decode cX6_sand 76 = .ok (.idiv, 1) := by decide +kernel
theorem dX6_sand_77 : decode cX6_sand 77 = .ok (.invokevirtual 287, 3) := by decide +kernel
theorem dX6_sand_80 : decode cX6_sand 80 = .ok (.ireturn, 1) := by decide +kernel
theorem dX6_burnt_0 : decode cX6_burnt 0 = .ok (.aload_n 0, 1) := by decide +kernel
theorem dX6_burnt_1 : decode cX6_burnt 1 = .ok (.iload_n 1, 1) := by decide +kernel
theorem dX6_burnt_2 : decode cX6_burnt 2 = .ok (.invokevirtual 229, 3) := by decide +kernel
theorem dX6_burnt_5 : decode cX6_burnt 5 = .ok (.invokevirtual 290, 3) := by decide +kernel
theorem dX6_burnt_8 : decode cX6_burnt 8 = .ok (.ireturn, 1) := by decide +kernel
theorem dX6_gap_0 : decode cX6_gap 0 = .ok (.iload_n 1, 1) := by decide +kernel
theorem dX6_gap_1 : decode cX6_gap 1 = .ok (.iconst 1, 1) := by decide +kernel
theorem dX6_gap_2 : decode cX6_gap 2 = .ok (.bipush 99, 2) := by decide +kernel
theorem dX6_gap_4 : decode cX6_gap 4 = .ok (.invokestatic 40, 3) := by decide +kernel
theorem dX6_gap_7 : decode cX6_gap 7 = .ok (.ifCond .eq 17, 3) := by decide +kernel
theorem dX6_gap_10 : decode cX6_gap 10 = .ok (.iload_n 2, 1) := by decide +kernel
theorem dX6_gap_11 : decode cX6_gap 11 = .ok (.iconst 5, 1) := by decide +kernel
theorem dX6_gap_12 : decode cX6_gap 12 = .ok (.bipush 30, 2) := by decide +kernel
theorem dX6_gap_14 : decode cX6_gap 14 = .ok (.invokestatic 40, 3) := by decide +kernel
theorem dX6_gap_17 : decode cX6_gap 17 = .ok (.ifCond .eq 7, 3) := by decide +kernel
theorem dX6_gap_20 : decode cX6_gap 20 = .ok (.iconst 1, 1) := by decide +kernel
theorem dX6_gap_21 : decode cX6_gap 21 = .ok (.goto 4, 3) := by decide +kernel
theorem dX6_gap_24 : decode cX6_gap 24 = .ok (.iconst 0, 1) := by decide +kernel
theorem dX6_gap_25 : decode cX6_gap 25 = .ok (.istore 4, 2) := by decide +kernel
theorem dX6_gap_27 : decode cX6_gap 27 = .ok (.iload 4, 2) := by decide +kernel
theorem dX6_gap_29 : decode cX6_gap 29 = .ok (.ifCond .eq 17, 3) := by decide +kernel
theorem dX6_gap_32 : decode cX6_gap 32 = .ok (.iload_n 3, 1) := by decide +kernel
theorem dX6_gap_33 : decode cX6_gap 33 = .ok (.iconst 0, 1) := by decide +kernel
theorem dX6_gap_34 : decode cX6_gap 34 = .ok (.getstatic 293, 3) := by decide +kernel
theorem dX6_gap_37 : decode cX6_gap 37 = .ok (.arraylength, 1) := by decide +kernel
theorem dX6_gap_38 : decode cX6_gap 38 = .ok (.iconst 1, 1) := by decide +kernel
theorem dX6_gap_39 : decode cX6_gap 39 = .ok (.isub, 1) := by decide +kernel
theorem dX6_gap_40 : decode cX6_gap 40 = .ok (.invokestatic 40, 3) := by decide +kernel
theorem dX6_gap_43 : decode cX6_gap 43 = .ok (.ifCond .ne 11, 3) := by decide +kernel
theorem dX6_gap_46 : decode cX6_gap 46 = .ok (.new 44, 3) := by decide +kernel
theorem dX6_gap_49 : decode cX6_gap 49 = .ok (.dup, 1) := by decide +kernel
theorem dX6_gap_50 : decode cX6_gap 50 = .ok (.invokespecial 46, 3) := by decide +kernel
theorem dX6_gap_53 : decode cX6_gap 53 = .ok (.athrow, 1) := by decide +kernel
theorem dX6_gap_54 : decode cX6_gap 54 = .ok (.iconst 0, 1) := by decide +kernel
theorem dX6_gap_55 : decode cX6_gap 55 = .ok (.iload_n 1, 1) := by decide +kernel
theorem dX6_gap_56 : decode cX6_gap 56 = .ok (.bipush 10, 2) := by decide +kernel
theorem dX6_gap_58 : decode cX6_gap 58 = .ok (.iload_n 2, 1) := by decide +kernel
theorem dX6_gap_59 : decode cX6_gap 59 = .ok (.imul, 1) := by decide +kernel
theorem dX6_gap_60 : decode cX6_gap 60 = .ok (.getstatic 293, 3) := by decide +kernel
theorem dX6_gap_63 : decode cX6_gap 63 = .ok (.iload_n 3, 1) := by decide +kernel
theorem dX6_gap_64 : decode cX6_gap 64 = .ok (.iaload, 1) := by decide +kernel
theorem dX6_gap_65 : decode cX6_gap 65 = .ok (.imul, 1) := by decide +kernel
theorem dX6_gap_66 : decode cX6_gap 66 = .ok (.sipush 1000, 3) := by decide +kernel
theorem dX6_gap_69 : decode cX6_gap 69 = .ok (.idiv, 1) := by decide +kernel
theorem dX6_gap_70 : decode cX6_gap 70 = .ok (.isub, 1) := by decide +kernel
theorem dX6_gap_71 : decode cX6_gap 71 = .ok (.invokestatic 203, 3) := by decide +kernel
theorem dX6_gap_74 : decode cX6_gap 74 = .ok (.ireturn, 1) := by decide +kernel
theorem dX6_offcuts_0 : decode cX6_offcuts 0 = .ok (.iconst 0, 1) := by decide +kernel
theorem dX6_offcuts_1 : decode cX6_offcuts 1 = .ok (.istore_n 2, 1) := by decide +kernel
theorem dX6_offcuts_2 : decode cX6_offcuts 2 = .ok (.iconst 0, 1) := by decide +kernel
theorem dX6_offcuts_3 : decode cX6_offcuts 3 = .ok (.istore_n 3, 1) := by decide +kernel
theorem dX6_offcuts_4 : decode cX6_offcuts 4 = .ok (.iload_n 3, 1) := by decide +kernel
theorem dX6_offcuts_5 : decode cX6_offcuts 5 = .ok (.aload_n 0, 1) := by decide +kernel
theorem dX6_offcuts_6 : decode cX6_offcuts 6 = .ok (.getfield 25, 3) := by decide +kernel
theorem dX6_offcuts_9 : decode cX6_offcuts 9 = .ok (.invokevirtual 47, 3) := by decide +kernel
theorem dX6_offcuts_12 : decode cX6_offcuts 12 = .ok (.if_icmp .ge 30, 3) := by decide +kernel
theorem dX6_offcuts_15 : decode cX6_offcuts 15 = .ok (.aload_n 0, 1) := by decide +kernel
theorem dX6_offcuts_16 : decode cX6_offcuts 16 = .ok (.getfield 25, 3) := by decide +kernel
theorem dX6_offcuts_19 : decode cX6_offcuts 19 = .ok (.iload_n 3, 1) := by decide +kernel
theorem dX6_offcuts_20 : decode cX6_offcuts 20 = .ok (.invokevirtual 216, 3) := by decide +kernel
theorem dX6_offcuts_23 : decode cX6_offcuts 23 = .ok (.checkcast 296, 3) := by decide +kernel
theorem dX6_offcuts_26 : decode cX6_offcuts 26 = .ok (.getfield 298, 3) := by decide +kernel
theorem dX6_offcuts_29 : decode cX6_offcuts 29 = .ok (.iload_n 1, 1) := by decide +kernel
theorem dX6_offcuts_30 : decode cX6_offcuts 30 = .ok (.if_icmp .ne 6, 3) := by decide +kernel
theorem dX6_offcuts_33 : decode cX6_offcuts 33 = .ok (.iinc 2 1, 3) := by decide +kernel
theorem dX6_offcuts_36 : decode cX6_offcuts 36 = .ok (.iinc 3 1, 3) := by decide +kernel
theorem dX6_offcuts_39 : decode cX6_offcuts 39 = .ok (.goto (-35), 3) := by decide +kernel
theorem dX6_offcuts_42 : decode cX6_offcuts 42 = .ok (.iload_n 2, 1) := by decide +kernel
theorem dX6_offcuts_43 : decode cX6_offcuts 43 = .ok (.ireturn, 1) := by decide +kernel
theorem dX6_takeOffcut_0 : decode cX6_takeOffcut 0 = .ok (.iload_n 1, 1) := by decide +kernel
theorem dX6_takeOffcut_1 : decode cX6_takeOffcut 1 = .ok (.bipush 50, 2) := by decide +kernel
theorem dX6_takeOffcut_3 : decode cX6_takeOffcut 3 = .ok (.sipush 4000, 3) := by decide +kernel
theorem dX6_takeOffcut_6 : decode cX6_takeOffcut 6 = .ok (.invokestatic 40, 3) := by decide +kernel
theorem dX6_takeOffcut_9 : decode cX6_takeOffcut 9 = .ok (.ifCond .eq 13, 3) := by decide +kernel
theorem dX6_takeOffcut_12 : decode cX6_takeOffcut 12 = .ok (.iload_n 2, 1) := by decide +kernel
theorem dX6_takeOffcut_13 : decode cX6_takeOffcut 13 = .ok (.iconst 1, 1) := by decide +kernel
theorem dX6_takeOffcut_14 : decode cX6_takeOffcut 14 = .ok (.bipush 20, 2) := by decide +kernel
theorem dX6_takeOffcut_16 : decode cX6_takeOffcut 16 = .ok (.invokestatic 40, 3) := by decide +kernel
theorem dX6_takeOffcut_19 : decode cX6_takeOffcut 19 = .ok (.ifCond .ne 11, 3) := by decide +kernel
theorem dX6_takeOffcut_22 : decode cX6_takeOffcut 22 = .ok (.new 44, 3) := by decide +kernel
theorem dX6_takeOffcut_25 : decode cX6_takeOffcut 25 = .ok (.dup, 1) := by decide +kernel
theorem dX6_takeOffcut_26 : decode cX6_takeOffcut 26 = .ok (.invokespecial 46, 3) := by decide +kernel
theorem dX6_takeOffcut_29 : decode cX6_takeOffcut 29 = .ok (.athrow, 1) := by decide +kernel
theorem dX6_takeOffcut_30 : decode cX6_takeOffcut 30 = .ok (.iconst (-1), 1) := by decide +kernel
theorem dX6_takeOffcut_31 : decode cX6_takeOffcut 31 = .ok (.istore_n 3, 1) := by decide +kernel
theorem dX6_takeOffcut_32 : decode cX6_takeOffcut 32 = .ok (.aconst_null, 1) := by decide +kernel
theorem dX6_takeOffcut_33 : decode cX6_takeOffcut 33 = .ok (.astore 4, 2) := by decide +kernel
theorem dX6_takeOffcut_35 : decode cX6_takeOffcut 35 = .ok (.iconst 0, 1) := by decide +kernel
theorem dX6_takeOffcut_36 : decode cX6_takeOffcut 36 = .ok (.istore 5, 2) := by decide +kernel
theorem dX6_takeOffcut_38 : decode cX6_takeOffcut 38 = .ok (.iload 5, 2) := by decide +kernel
theorem dX6_takeOffcut_40 : decode cX6_takeOffcut 40 = .ok (.aload_n 0, 1) := by decide +kernel
theorem dX6_takeOffcut_41 : decode cX6_takeOffcut 41 = .ok (.getfield 25, 3) := by decide +kernel
theorem dX6_takeOffcut_44 : decode cX6_takeOffcut 44 = .ok (.invokevirtual 47, 3) := by decide +kernel
theorem dX6_takeOffcut_47 : decode cX6_takeOffcut 47 = .ok (.if_icmp .ge 75, 3) := by decide +kernel
theorem dX6_takeOffcut_50 : decode cX6_takeOffcut 50 = .ok (.aload_n 0, 1) := by decide +kernel
theorem dX6_takeOffcut_51 : decode cX6_takeOffcut 51 = .ok (.getfield 25, 3) := by decide +kernel
theorem dX6_takeOffcut_54 : decode cX6_takeOffcut 54 = .ok (.iload 5, 2) := by decide +kernel
theorem dX6_takeOffcut_56 : decode cX6_takeOffcut 56 = .ok (.invokevirtual 216, 3) := by decide +kernel
theorem dX6_takeOffcut_59 : decode cX6_takeOffcut 59 = .ok (.checkcast 296, 3) := by decide +kernel
theorem dX6_takeOffcut_62 : decode cX6_takeOffcut 62 = .ok (.astore 6, 2) := by decide +kernel
theorem dX6_takeOffcut_64 : decode cX6_takeOffcut 64 = .ok (.aload 6, 2) := by decide +kernel
theorem dX6_takeOffcut_66 : decode cX6_takeOffcut 66 = .ok (.getfield 298, 3) := by decide +kernel
theorem dX6_takeOffcut_69 : decode cX6_takeOffcut 69 = .ok (.iload_n 1, 1) := by decide +kernel
theorem dX6_takeOffcut_70 : decode cX6_takeOffcut 70 = .ok (.if_icmp .lt 16, 3) := by decide +kernel
theorem dX6_takeOffcut_73 : decode cX6_takeOffcut 73 = .ok (.aload 6, 2) := by decide +kernel
theorem dX6_takeOffcut_75 : decode cX6_takeOffcut 75 = .ok (.getfield 301, 3) := by decide +kernel
theorem dX6_takeOffcut_78 : decode cX6_takeOffcut 78 = .ok (.iload_n 2, 1) := by decide +kernel
theorem dX6_takeOffcut_79 : decode cX6_takeOffcut 79 = .ok (.if_icmp .lt 7, 3) := by decide +kernel
theorem dX6_takeOffcut_82 : decode cX6_takeOffcut 82 = .ok (.iconst 1, 1) := by decide +kernel
theorem dX6_takeOffcut_83 : decode cX6_takeOffcut 83 = .ok (.goto 4, 3) := by decide +kernel
theorem dX6_takeOffcut_86 : decode cX6_takeOffcut 86 = .ok (.iconst 0, 1) := by decide +kernel
theorem dX6_takeOffcut_87 : decode cX6_takeOffcut 87 = .ok (.istore 7, 2) := by decide +kernel
theorem dX6_takeOffcut_89 : decode cX6_takeOffcut 89 = .ok (.iload 7, 2) := by decide +kernel
theorem dX6_takeOffcut_91 : decode cX6_takeOffcut 91 = .ok (.ifCond .eq 25, 3) := by decide +kernel
theorem dX6_takeOffcut_94 : decode cX6_takeOffcut 94 = .ok (.aload 4, 2) := by decide +kernel
theorem dX6_takeOffcut_96 : decode cX6_takeOffcut 96 = .ok (.ifnull 13, 3) := by decide +kernel
theorem dX6_takeOffcut_99 : decode cX6_takeOffcut 99 = .ok (.aload 6, 2) := by decide +kernel
theorem dX6_takeOffcut_101 : decode cX6_takeOffcut 101 = .ok (.aload 4, 2) := by decide +kernel
theorem dX6_takeOffcut_103 : decode cX6_takeOffcut 103 = .ok (.invokevirtual 304, 3) := by decide +kernel
theorem dX6_takeOffcut_106 : decode cX6_takeOffcut 106 = .ok (.ifCond .eq 10, 3) := by decide +kernel
theorem dX6_takeOffcut_109 : decode cX6_takeOffcut 109 = .ok (.iload 5, 2) := by decide +kernel
theorem dX6_takeOffcut_111 : decode cX6_takeOffcut 111 = .ok (.istore_n 3, 1) := by decide +kernel
theorem dX6_takeOffcut_112 : decode cX6_takeOffcut 112 = .ok (.aload 6, 2) := by decide +kernel
theorem dX6_takeOffcut_114 : decode cX6_takeOffcut 114 = .ok (.astore 4, 2) := by decide +kernel
theorem dX6_takeOffcut_116 : decode cX6_takeOffcut 116 = .ok (.iinc 5 1, 3) := by decide +kernel
theorem dX6_takeOffcut_119 : decode cX6_takeOffcut 119 = .ok (.goto (-81), 3) := by decide +kernel
theorem dX6_takeOffcut_122 : decode cX6_takeOffcut 122 = .ok (.aload 4, 2) := by decide +kernel
theorem dX6_takeOffcut_124 : decode cX6_takeOffcut 124 = .ok (.ifnonnull 11, 3) := by decide +kernel
theorem dX6_takeOffcut_127 : decode cX6_takeOffcut 127 = .ok (.new 168, 3) := by decide +kernel
theorem dX6_takeOffcut_130 : decode cX6_takeOffcut 130 = .ok (.dup, 1) := by decide +kernel
theorem dX6_takeOffcut_131 : decode cX6_takeOffcut 131 = .ok (.invokespecial 170, 3) := by decide +kernel
theorem dX6_takeOffcut_134 : decode cX6_takeOffcut 134 = .ok (.athrow, 1) := by decide +kernel
theorem dX6_takeOffcut_135 : decode cX6_takeOffcut 135 = .ok (.aload_n 0, 1) := by decide +kernel
theorem dX6_takeOffcut_136 : decode cX6_takeOffcut 136 = .ok (.getfield 25, 3) := by decide +kernel
theorem dX6_takeOffcut_139 : decode cX6_takeOffcut 139 = .ok (.iload_n 3, 1) := by decide +kernel
theorem dX6_takeOffcut_140 : decode cX6_takeOffcut 140 = .ok (.invokevirtual 308, 3) := by decide +kernel
theorem dX6_takeOffcut_143 : decode cX6_takeOffcut 143 = .ok (.pop, 1) := by decide +kernel
theorem dX6_takeOffcut_144 : decode cX6_takeOffcut 144 = .ok (.aload_n 0, 1) := by decide +kernel
theorem dX6_takeOffcut_145 : decode cX6_takeOffcut 145 = .ok (.dup, 1) := by decide +kernel
theorem dX6_takeOffcut_146 : decode cX6_takeOffcut 146 = .ok (.getfield 311, 3) := by decide +kernel
theorem dX6_takeOffcut_149 : decode cX6_takeOffcut 149 = .ok (.aload 4, 2) := by decide +kernel
theorem dX6_takeOffcut_151 : decode cX6_takeOffcut 151 = .ok (.invokevirtual 314, 3) := by decide +kernel
theorem dX6_takeOffcut_154 : decode cX6_takeOffcut 154 = .ok (.iadd, 1) := by decide +kernel
theorem dX6_takeOffcut_155 : decode cX6_takeOffcut 155 = .ok (.putfield 311, 3) := by decide +kernel
theorem dX6_takeOffcut_158 : decode cX6_takeOffcut 158 = .ok (.aload 4, 2) := by decide +kernel
theorem dX6_takeOffcut_160 : decode cX6_takeOffcut 160 = .ok (.getfield 298, 3) := by decide +kernel
theorem dX6_takeOffcut_163 : decode cX6_takeOffcut 163 = .ok (.ireturn, 1) := by decide +kernel
theorem dX6_account_0 : decode cX6_account 0 = .ok (.iload_n 1, 1) := by decide +kernel
theorem dX6_account_1 : decode cX6_account 1 = .ok (.bipush 102, 2) := by decide +kernel
theorem dX6_account_3 : decode cX6_account 3 = .ok (.if_icmp .ne 8, 3) := by decide +kernel
theorem dX6_account_6 : decode cX6_account 6 = .ok (.aload_n 0, 1) := by decide +kernel
theorem dX6_account_7 : decode cX6_account 7 = .ok (.getfield 149, 3) := by decide +kernel
theorem dX6_account_10 : decode cX6_account 10 = .ok (.ireturn, 1) := by decide +kernel
theorem dX6_account_11 : decode cX6_account 11 = .ok (.iload_n 1, 1) := by decide +kernel
theorem dX6_account_12 : decode cX6_account 12 = .ok (.bipush 98, 2) := by decide +kernel
theorem dX6_account_14 : decode cX6_account 14 = .ok (.if_icmp .ne 8, 3) := by decide +kernel
theorem dX6_account_17 : decode cX6_account 17 = .ok (.aload_n 0, 1) := by decide +kernel
theorem dX6_account_18 : decode cX6_account 18 = .ok (.getfield 165, 3) := by decide +kernel
theorem dX6_account_21 : decode cX6_account 21 = .ok (.ireturn, 1) := by decide +kernel
theorem dX6_account_22 : decode cX6_account 22 = .ok (.iload_n 1, 1) := by decide +kernel
theorem dX6_account_23 : decode cX6_account 23 = .ok (.bipush 112, 2) := by decide +kernel
theorem dX6_account_25 : decode cX6_account 25 = .ok (.if_icmp .ne 8, 3) := by decide +kernel
theorem dX6_account_28 : decode cX6_account 28 = .ok (.aload_n 0, 1) := by decide +kernel
theorem dX6_account_29 : decode cX6_account 29 = .ok (.getfield 267, 3) := by decide +kernel
theorem dX6_account_32 : decode cX6_account 32 = .ok (.ireturn, 1) := by decide +kernel
theorem dX6_account_33 : decode cX6_account 33 = .ok (.iload_n 1, 1) := by decide +kernel
theorem dX6_account_34 : decode cX6_account 34 = .ok (.bipush 111, 2) := by decide +kernel
theorem dX6_account_36 : decode cX6_account 36 = .ok (.if_icmp .ne 8, 3) := by decide +kernel
theorem dX6_account_39 : decode cX6_account 39 = .ok (.aload_n 0, 1) := by decide +kernel
theorem dX6_account_40 : decode cX6_account 40 = .ok (.invokevirtual 315, 3) := by decide +kernel
theorem dX6_account_43 : decode cX6_account 43 = .ok (.ireturn, 1) := by decide +kernel
theorem dX6_account_44 : decode cX6_account 44 = .ok (.iload_n 1, 1) := by decide +kernel
theorem dX6_account_45 : decode cX6_account 45 = .ok (.bipush 114, 2) := by decide +kernel
theorem dX6_account_47 : decode cX6_account 47 = .ok (.if_icmp .ne 8, 3) := by decide +kernel
theorem dX6_account_50 : decode cX6_account 50 = .ok (.aload_n 0, 1) := by decide +kernel
theorem dX6_account_51 : decode cX6_account 51 = .ok (.getfield 311, 3) := by decide +kernel
theorem dX6_account_54 : decode cX6_account 54 = .ok (.ireturn, 1) := by decide +kernel
theorem dX6_account_55 : decode cX6_account 55 = .ok (.iload_n 1, 1) := by decide +kernel
theorem dX6_account_56 : decode cX6_account 56 = .ok (.bipush 119, 2) := by decide +kernel
theorem dX6_account_58 : decode cX6_account 58 = .ok (.if_icmp .ne 8, 3) := by decide +kernel
theorem dX6_account_61 : decode cX6_account 61 = .ok (.aload_n 0, 1) := by decide +kernel
theorem dX6_account_62 : decode cX6_account 62 = .ok (.getfield 270, 3) := by decide +kernel
theorem dX6_account_65 : decode cX6_account 65 = .ok (.ireturn, 1) := by decide +kernel
theorem dX6_account_66 : decode cX6_account 66 = .ok (.iload_n 1, 1) := by decide +kernel
theorem dX6_account_67 : decode cX6_account 67 = .ok (.bipush 108, 2) := by decide +kernel
theorem dX6_account_69 : decode cX6_account 69 = .ok (.if_icmp .ne 8, 3) := by decide +kernel
theorem dX6_account_72 : decode cX6_account 72 = .ok (.aload_n 0, 1) := by decide +kernel
theorem dX6_account_73 : decode cX6_account 73 = .ok (.invokevirtual 318, 3) := by decide +kernel
theorem dX6_account_76 : decode cX6_account 76 = .ok (.ireturn, 1) := by decide +kernel
theorem dX6_account_77 : decode cX6_account 77 = .ok (.new 44, 3) := by decide +kernel
theorem dX6_account_80 : decode cX6_account 80 = .ok (.dup, 1) := by decide +kernel
theorem dX6_account_81 : decode cX6_account 81 = .ok (.invokespecial 46, 3) := by decide +kernel
theorem dX6_account_84 : decode cX6_account 84 = .ok (.athrow, 1) := by decide +kernel
theorem dX6_price_0 : decode cX6_price 0 = .ok (.aload_n 0, 1) := by decide +kernel
theorem dX6_price_1 : decode cX6_price 1 = .ok (.iload_n 1, 1) := by decide +kernel
theorem dX6_price_2 : decode cX6_price 2 = .ok (.invokevirtual 113, 3) := by decide +kernel
theorem dX6_price_5 : decode cX6_price 5 = .ok (.invokevirtual 321, 3) := by decide +kernel
theorem dX6_price_8 : decode cX6_price 8 = .ok (.ireturn, 1) := by decide +kernel
theorem dX6_usedShare_0 : decode cX6_usedShare 0 = .ok (.iconst 0, 1) := by decide +kernel
theorem dX6_usedShare_1 : decode cX6_usedShare 1 = .ok (.istore_n 1, 1) := by decide +kernel
theorem dX6_usedShare_2 : decode cX6_usedShare 2 = .ok (.iconst 0, 1) := by decide +kernel
theorem dX6_usedShare_3 : decode cX6_usedShare 3 = .ok (.istore_n 2, 1) := by decide +kernel
theorem dX6_usedShare_4 : decode cX6_usedShare 4 = .ok (.iconst 0, 1) := by decide +kernel
theorem dX6_usedShare_5 : decode cX6_usedShare 5 = .ok (.istore_n 3, 1) := by decide +kernel
theorem dX6_usedShare_6 : decode cX6_usedShare 6 = .ok (.iload_n 3, 1) := by decide +kernel
theorem dX6_usedShare_7 : decode cX6_usedShare 7 = .ok (.aload_n 0, 1) := by decide +kernel
theorem dX6_usedShare_8 : decode cX6_usedShare 8 = .ok (.getfield 16, 3) := by decide +kernel
theorem dX6_usedShare_11 : decode cX6_usedShare 11 = .ok (.invokevirtual 47, 3) := by decide +kernel
theorem dX6_usedShare_14 : decode cX6_usedShare 14 = .ok (.if_icmp .ge 43, 3) := by decide +kernel
theorem dX6_usedShare_17 : decode cX6_usedShare 17 = .ok (.iload_n 1, 1) := by decide +kernel
theorem dX6_usedShare_18 : decode cX6_usedShare 18 = .ok (.aload_n 0, 1) := by decide +kernel
theorem dX6_usedShare_19 : decode cX6_usedShare 19 = .ok (.getfield 16, 3) := by decide +kernel
theorem dX6_usedShare_22 : decode cX6_usedShare 22 = .ok (.iload_n 3, 1) := by decide +kernel
theorem dX6_usedShare_23 : decode cX6_usedShare 23 = .ok (.invokevirtual 216, 3) := by decide +kernel
theorem dX6_usedShare_26 : decode cX6_usedShare 26 = .ok (.checkcast 76, 3) := by decide +kernel
theorem dX6_usedShare_29 : decode cX6_usedShare 29 = .ok (.getfield 324, 3) := by decide +kernel
theorem dX6_usedShare_32 : decode cX6_usedShare 32 = .ok (.iadd, 1) := by decide +kernel
theorem dX6_usedShare_33 : decode cX6_usedShare 33 = .ok (.istore_n 1, 1) := by decide +kernel
theorem dX6_usedShare_34 : decode cX6_usedShare 34 = .ok (.iload_n 2, 1) := by decide +kernel
theorem dX6_usedShare_35 : decode cX6_usedShare 35 = .ok (.aload_n 0, 1) := by decide +kernel
theorem dX6_usedShare_36 : decode cX6_usedShare 36 = .ok (.getfield 16, 3) := by decide +kernel
theorem dX6_usedShare_39 : decode cX6_usedShare 39 = .ok (.iload_n 3, 1) := by decide +kernel
theorem dX6_usedShare_40 : decode cX6_usedShare 40 = .ok (.invokevirtual 216, 3) := by decide +kernel
theorem dX6_usedShare_43 : decode cX6_usedShare 43 = .ok (.checkcast 76, 3) := by decide +kernel
theorem dX6_usedShare_46 : decode cX6_usedShare 46 = .ok (.getfield 85, 3) := by decide +kernel
theorem dX6_usedShare_49 : decode cX6_usedShare 49 = .ok (.iadd, 1) := by decide +kernel
theorem dX6_usedShare_50 : decode cX6_usedShare 50 = .ok (.istore_n 2, 1) := by decide +kernel
theorem dX6_usedShare_51 : decode cX6_usedShare 51 = .ok (.iinc 3 1, 3) := by decide +kernel
theorem dX6_usedShare_54 : decode cX6_usedShare 54 = .ok (.goto (-48), 3) := by decide +kernel
theorem dX6_usedShare_57 : decode cX6_usedShare 57 = .ok (.iload_n 2, 1) := by decide +kernel
theorem dX6_usedShare_58 : decode cX6_usedShare 58 = .ok (.ifCond .ne 11, 3) := by decide +kernel
theorem dX6_usedShare_61 : decode cX6_usedShare 61 = .ok (.new 327, 3) := by decide +kernel
theorem dX6_usedShare_64 : decode cX6_usedShare 64 = .ok (.dup, 1) := by decide +kernel
theorem dX6_usedShare_65 : decode cX6_usedShare 65 = .ok (.invokespecial 329, 3) := by decide +kernel
theorem dX6_usedShare_68 : decode cX6_usedShare 68 = .ok (.athrow, 1) := by decide +kernel
theorem dX6_usedShare_69 : decode cX6_usedShare 69 = .ok (.iload_n 1, 1) := by decide +kernel
theorem dX6_usedShare_70 : decode cX6_usedShare 70 = .ok (.i2f, 1) := by decide +kernel
theorem dX6_usedShare_71 : decode cX6_usedShare 71 = .ok (.iload_n 2, 1) := by decide +kernel
theorem dX6_usedShare_72 : decode cX6_usedShare 72 = .ok (.i2f, 1) := by decide +kernel
theorem dX6_usedShare_73 : decode cX6_usedShare 73 = .ok (.fdiv, 1) := by decide +kernel
theorem dX6_usedShare_74 : decode cX6_usedShare 74 = .ok (.freturn, 1) := by decide +kernel
theorem dX6_meanFigure_0 : decode cX6_meanFigure 0 = .ok (.iconst 0, 1) := by decide +kernel
theorem dX6_meanFigure_1 : decode cX6_meanFigure 1 = .ok (.istore_n 1, 1) := by decide +kernel
theorem dX6_meanFigure_2 : decode cX6_meanFigure 2 = .ok (.iconst 0, 1) := by decide +kernel
theorem dX6_meanFigure_3 : decode cX6_meanFigure 3 = .ok (.istore_n 2, 1) := by decide +kernel
theorem dX6_meanFigure_4 : decode cX6_meanFigure 4 = .ok (.iconst 0, 1) := by decide +kernel
theorem dX6_meanFigure_5 : decode cX6_meanFigure 5 = .ok (.istore_n 3, 1) := by decide +kernel
theorem dX6_meanFigure_6 : decode cX6_meanFigure 6 = .ok (.iload_n 3, 1) := by decide +kernel
theorem dX6_meanFigure_7 : decode cX6_meanFigure 7 = .ok (.aload_n 0, 1) := by decide +kernel
theorem dX6_meanFigure_8 : decode cX6_meanFigure 8 = .ok (.getfield 16, 3) := by decide +kernel
theorem dX6_meanFigure_11 : decode cX6_meanFigure 11 = .ok (.invokevirtual 47, 3) := by decide +kernel
theorem dX6_meanFigure_14 : decode cX6_meanFigure 14 = .ok (.if_icmp .ge 59, 3) := by decide +kernel
theorem dX6_meanFigure_17 : decode cX6_meanFigure 17 = .ok (.aload_n 0, 1) := by decide +kernel
theorem dX6_meanFigure_18 : decode cX6_meanFigure 18 = .ok (.getfield 16, 3) := by decide +kernel
theorem dX6_meanFigure_21 : decode cX6_meanFigure 21 = .ok (.iload_n 3, 1) := by decide +kernel
theorem dX6_meanFigure_22 : decode cX6_meanFigure 22 = .ok (.invokevirtual 216, 3) := by decide +kernel
theorem dX6_meanFigure_25 : decode cX6_meanFigure 25 = .ok (.checkcast 76, 3) := by decide +kernel
theorem dX6_meanFigure_28 : decode cX6_meanFigure 28 = .ok (.astore 4, 2) := by decide +kernel
theorem dX6_meanFigure_30 : decode cX6_meanFigure 30 = .ok (.iconst 0, 1) := by decide +kernel
theorem dX6_meanFigure_31 : decode cX6_meanFigure 31 = .ok (.istore 5, 2) := by decide +kernel
theorem dX6_meanFigure_33 : decode cX6_meanFigure 33 = .ok (.iload 5, 2) := by decide +kernel
theorem dX6_meanFigure_35 : decode cX6_meanFigure 35 = .ok (.aload 4, 2) := by decide +kernel
theorem dX6_meanFigure_37 : decode cX6_meanFigure 37 = .ok (.getfield 85, 3) := by decide +kernel
theorem dX6_meanFigure_40 : decode cX6_meanFigure 40 = .ok (.if_icmp .ge 19, 3) := by decide +kernel
theorem dX6_meanFigure_43 : decode cX6_meanFigure 43 = .ok (.iload_n 1, 1) := by decide +kernel
theorem dX6_meanFigure_44 : decode cX6_meanFigure 44 = .ok (.aload 4, 2) := by decide +kernel
theorem dX6_meanFigure_46 : decode cX6_meanFigure 46 = .ok (.iload 5, 2) := by decide +kernel
theorem dX6_meanFigure_48 : decode cX6_meanFigure 48 = .ok (.invokevirtual 99, 3) := by decide +kernel
theorem dX6_meanFigure_51 : decode cX6_meanFigure 51 = .ok (.iadd, 1) := by decide +kernel
theorem dX6_meanFigure_52 : decode cX6_meanFigure 52 = .ok (.istore_n 1, 1) := by decide +kernel
theorem dX6_meanFigure_53 : decode cX6_meanFigure 53 = .ok (.iinc 5 1, 3) := by decide +kernel
theorem dX6_meanFigure_56 : decode cX6_meanFigure 56 = .ok (.goto (-23), 3) := by decide +kernel
theorem dX6_meanFigure_59 : decode cX6_meanFigure 59 = .ok (.iload_n 2, 1) := by decide +kernel
theorem dX6_meanFigure_60 : decode cX6_meanFigure 60 = .ok (.aload 4, 2) := by decide +kernel
theorem dX6_meanFigure_62 : decode cX6_meanFigure 62 = .ok (.getfield 85, 3) := by decide +kernel
theorem dX6_meanFigure_65 : decode cX6_meanFigure 65 = .ok (.iadd, 1) := by decide +kernel
theorem dX6_meanFigure_66 : decode cX6_meanFigure 66 = .ok (.istore_n 2, 1) := by decide +kernel
theorem dX6_meanFigure_67 : decode cX6_meanFigure 67 = .ok (.iinc 3 1, 3) := by decide +kernel
theorem dX6_meanFigure_70 : decode cX6_meanFigure 70 = .ok (.goto (-64), 3) := by decide +kernel
theorem dX6_meanFigure_73 : decode cX6_meanFigure 73 = .ok (.iload_n 2, 1) := by decide +kernel
theorem dX6_meanFigure_74 : decode cX6_meanFigure 74 = .ok (.ifCond .ne 11, 3) := by decide +kernel
theorem dX6_meanFigure_77 : decode cX6_meanFigure 77 = .ok (.new 327, 3) := by decide +kernel
theorem dX6_meanFigure_80 : decode cX6_meanFigure 80 = .ok (.dup, 1) := by decide +kernel
theorem dX6_meanFigure_81 : decode cX6_meanFigure 81 = .ok (.invokespecial 329, 3) := by decide +kernel
theorem dX6_meanFigure_84 : decode cX6_meanFigure 84 = .ok (.athrow, 1) := by decide +kernel
theorem dX6_meanFigure_85 : decode cX6_meanFigure 85 = .ok (.iload_n 1, 1) := by decide +kernel
theorem dX6_meanFigure_86 : decode cX6_meanFigure 86 = .ok (.i2d, 1) := by decide +kernel
theorem dX6_meanFigure_87 : decode cX6_meanFigure 87 = .ok (.iload_n 2, 1) := by decide +kernel
theorem dX6_meanFigure_88 : decode cX6_meanFigure 88 = .ok (.i2d, 1) := by decide +kernel
theorem dX6_meanFigure_89 : decode cX6_meanFigure 89 = .ok (.ddiv, 1) := by decide +kernel
theorem dX6_meanFigure_90 : decode cX6_meanFigure 90 = .ok (.dreturn, 1) := by decide +kernel
theorem dX6_checksum_0 : decode cX6_checksum 0 = .ok (.ldc2_w 330, 3) := by decide +kernel
theorem dX6_checksum_3 : decode cX6_checksum 3 = .ok (.lstore_n 1, 1) := by decide +kernel
theorem dX6_checksum_4 : decode cX6_checksum 4 = .ok (.iconst 0, 1) := by decide +kernel
theorem dX6_checksum_5 : decode cX6_checksum 5 = .ok (.istore_n 3, 1) := by decide +kernel
theorem dX6_checksum_6 : decode cX6_checksum 6 = .ok (.iload_n 3, 1) := by decide +kernel
theorem dX6_checksum_7 : decode cX6_checksum 7 = .ok (.aload_n 0, 1) := by decide +kernel
theorem dX6_checksum_8 : decode cX6_checksum 8 = .ok (.getfield 16, 3) := by decide +kernel
theorem dX6_checksum_11 : decode cX6_checksum 11 = .ok (.invokevirtual 47, 3) := by decide +kernel
theorem dX6_checksum_14 : decode cX6_checksum 14 = .ok (.if_icmp .ge 31, 3) := by decide +kernel
theorem dX6_checksum_17 : decode cX6_checksum 17 = .ok (.ldc2_w 332, 3) := by decide +kernel
theorem dX6_checksum_20 : decode cX6_checksum 20 = .ok (.lload_n 1, 1) := by decide +kernel
theorem dX6_checksum_21 : decode cX6_checksum 21 = .ok (.lmul, 1) := by decide +kernel
theorem dX6_checksum_22 : decode cX6_checksum 22 = .ok (.aload_n 0, 1) := by decide +kernel
theorem dX6_checksum_23 : decode cX6_checksum 23 = .ok (.getfield 16, 3) := by decide +kernel
theorem dX6_checksum_26 : decode cX6_checksum 26 = .ok (.iload_n 3, 1) := by decide +kernel
theorem dX6_checksum_27 : decode cX6_checksum 27 = .ok (.invokevirtual 216, 3) := by decide +kernel
theorem dX6_checksum_30 : decode cX6_checksum 30 = .ok (.checkcast 76, 3) := by decide +kernel
theorem dX6_checksum_33 : decode cX6_checksum 33 = .ok (.getfield 324, 3) := by decide +kernel
theorem dX6_checksum_36 : decode cX6_checksum 36 = .ok (.i2l, 1) := by decide +kernel
theorem dX6_checksum_37 : decode cX6_checksum 37 = .ok (.ladd, 1) := by decide +kernel
theorem dX6_checksum_38 : decode cX6_checksum 38 = .ok (.lstore_n 1, 1) := by decide +kernel
theorem dX6_checksum_39 : decode cX6_checksum 39 = .ok (.iinc 3 1, 3) := by decide +kernel
theorem dX6_checksum_42 : decode cX6_checksum 42 = .ok (.goto (-36), 3) := by decide +kernel
theorem dX6_checksum_45 : decode cX6_checksum 45 = .ok (.iconst 0, 1) := by decide +kernel
theorem dX6_checksum_46 : decode cX6_checksum 46 = .ok (.istore_n 3, 1) := by decide +kernel
theorem dX6_checksum_47 : decode cX6_checksum 47 = .ok (.iload_n 3, 1) := by decide +kernel
theorem dX6_checksum_48 : decode cX6_checksum 48 = .ok (.aload_n 0, 1) := by decide +kernel
theorem dX6_checksum_49 : decode cX6_checksum 49 = .ok (.getfield 19, 3) := by decide +kernel
theorem dX6_checksum_52 : decode cX6_checksum 52 = .ok (.invokevirtual 47, 3) := by decide +kernel
theorem dX6_checksum_55 : decode cX6_checksum 55 = .ok (.if_icmp .ge 31, 3) := by decide +kernel
theorem dX6_checksum_58 : decode cX6_checksum 58 = .ok (.ldc2_w 332, 3) := by decide +kernel
theorem dX6_checksum_61 : decode cX6_checksum 61 = .ok (.lload_n 1, 1) := by decide +kernel
theorem dX6_checksum_62 : decode cX6_checksum 62 = .ok (.lmul, 1) := by decide +kernel
theorem dX6_checksum_63 : decode cX6_checksum 63 = .ok (.aload_n 0, 1) := by decide +kernel
theorem dX6_checksum_64 : decode cX6_checksum 64 = .ok (.getfield 19, 3) := by decide +kernel
theorem dX6_checksum_67 : decode cX6_checksum 67 = .ok (.iload_n 3, 1) := by decide +kernel
theorem dX6_checksum_68 : decode cX6_checksum 68 = .ok (.invokevirtual 216, 3) := by decide +kernel
theorem dX6_checksum_71 : decode cX6_checksum 71 = .ok (.checkcast 108, 3) := by decide +kernel
theorem dX6_checksum_74 : decode cX6_checksum 74 = .ok (.invokevirtual 321, 3) := by decide +kernel
theorem dX6_checksum_77 : decode cX6_checksum 77 = .ok (.i2l, 1) := by decide +kernel
theorem dX6_checksum_78 : decode cX6_checksum 78 = .ok (.ladd, 1) := by decide +kernel
theorem dX6_checksum_79 : decode cX6_checksum 79 = .ok (.lstore_n 1, 1) := by decide +kernel
theorem dX6_checksum_80 : decode cX6_checksum 80 = .ok (.iinc 3 1, 3) := by decide +kernel
theorem dX6_checksum_83 : decode cX6_checksum 83 = .ok (.goto (-36), 3) := by decide +kernel
theorem dX6_checksum_86 : decode cX6_checksum 86 = .ok (.iconst 0, 1) := by decide +kernel
theorem dX6_checksum_87 : decode cX6_checksum 87 = .ok (.istore_n 3, 1) := by decide +kernel
theorem dX6_checksum_88 : decode cX6_checksum 88 = .ok (.iload_n 3, 1) := by decide +kernel
theorem dX6_checksum_89 : decode cX6_checksum 89 = .ok (.aload_n 0, 1) := by decide +kernel
theorem dX6_checksum_90 : decode cX6_checksum 90 = .ok (.getfield 22, 3) := by decide +kernel
theorem dX6_checksum_93 : decode cX6_checksum 93 = .ok (.invokevirtual 47, 3) := by decide +kernel
theorem dX6_checksum_96 : decode cX6_checksum 96 = .ok (.if_icmp .ge 31, 3) := by decide +kernel
theorem dX6_checksum_99 : decode cX6_checksum 99 = .ok (.ldc2_w 332, 3) := by decide +kernel
theorem dX6_checksum_102 : decode cX6_checksum 102 = .ok (.lload_n 1, 1) := by decide +kernel
theorem dX6_checksum_103 : decode cX6_checksum 103 = .ok (.lmul, 1) := by decide +kernel
theorem dX6_checksum_104 : decode cX6_checksum 104 = .ok (.aload_n 0, 1) := by decide +kernel
theorem dX6_checksum_105 : decode cX6_checksum 105 = .ok (.getfield 22, 3) := by decide +kernel
theorem dX6_checksum_108 : decode cX6_checksum 108 = .ok (.iload_n 3, 1) := by decide +kernel
theorem dX6_checksum_109 : decode cX6_checksum 109 = .ok (.invokevirtual 216, 3) := by decide +kernel
theorem dX6_checksum_112 : decode cX6_checksum 112 = .ok (.checkcast 226, 3) := by decide +kernel
theorem dX6_checksum_115 : decode cX6_checksum 115 = .ok (.getfield 248, 3) := by decide +kernel
theorem dX6_checksum_118 : decode cX6_checksum 118 = .ok (.i2l, 1) := by decide +kernel
theorem dX6_checksum_119 : decode cX6_checksum 119 = .ok (.ladd, 1) := by decide +kernel
theorem dX6_checksum_120 : decode cX6_checksum 120 = .ok (.lstore_n 1, 1) := by decide +kernel
theorem dX6_checksum_121 : decode cX6_checksum 121 = .ok (.iinc 3 1, 3) := by decide +kernel
theorem dX6_checksum_124 : decode cX6_checksum 124 = .ok (.goto (-36), 3) := by decide +kernel
theorem dX6_checksum_127 : decode cX6_checksum 127 = .ok (.ldc2_w 332, 3) := by decide +kernel
theorem dX6_checksum_130 : decode cX6_checksum 130 = .ok (.lload_n 1, 1) := by decide +kernel
theorem dX6_checksum_131 : decode cX6_checksum 131 = .ok (.lmul, 1) := by decide +kernel
theorem dX6_checksum_132 : decode cX6_checksum 132 = .ok (.aload_n 0, 1) := by decide +kernel
theorem dX6_checksum_133 : decode cX6_checksum 133 = .ok (.getfield 270, 3) := by decide +kernel
theorem dX6_checksum_136 : decode cX6_checksum 136 = .ok (.i2l, 1) := by decide +kernel
theorem dX6_checksum_137 : decode cX6_checksum 137 = .ok (.ladd, 1) := by decide +kernel
theorem dX6_checksum_138 : decode cX6_checksum 138 = .ok (.lreturn, 1) := by decide +kernel
theorem dX6_isTrue_0 : decode cX6_isTrue 0 = .ok (.aload_n 0, 1) := by decide +kernel
theorem dX6_isTrue_1 : decode cX6_isTrue 1 = .ok (.invokevirtual 334, 3) := by decide +kernel
theorem dX6_isTrue_4 : decode cX6_isTrue 4 = .ok (.ifCond .eq 21, 3) := by decide +kernel
theorem dX6_isTrue_7 : decode cX6_isTrue 7 = .ok (.aload_n 0, 1) := by decide +kernel
theorem dX6_isTrue_8 : decode cX6_isTrue 8 = .ok (.invokevirtual 337, 3) := by decide +kernel
theorem dX6_isTrue_11 : decode cX6_isTrue 11 = .ok (.ifCond .eq 14, 3) := by decide +kernel
theorem dX6_isTrue_14 : decode cX6_isTrue 14 = .ok (.aload_n 0, 1) := by decide +kernel
theorem dX6_isTrue_15 : decode cX6_isTrue 15 = .ok (.invokevirtual 340, 3) := by decide +kernel
theorem dX6_isTrue_18 : decode cX6_isTrue 18 = .ok (.ifCond .eq 7, 3) := by decide +kernel
theorem dX6_isTrue_21 : decode cX6_isTrue 21 = .ok (.iconst 1, 1) := by decide +kernel
theorem dX6_isTrue_22 : decode cX6_isTrue 22 = .ok (.goto 4, 3) := by decide +kernel
theorem dX6_isTrue_25 : decode cX6_isTrue 25 = .ok (.iconst 0, 1) := by decide +kernel
theorem dX6_isTrue_26 : decode cX6_isTrue 26 = .ok (.ireturn, 1) := by decide +kernel
theorem dX6_logOf_0 : decode cX6_logOf 0 = .ok (.iload_n 1, 1) := by decide +kernel
theorem dX6_logOf_1 : decode cX6_logOf 1 = .ok (.ifCond .lt 14, 3) := by decide +kernel
theorem dX6_logOf_4 : decode cX6_logOf 4 = .ok (.iload_n 1, 1) := by decide +kernel
theorem dX6_logOf_5 : decode cX6_logOf 5 = .ok (.aload_n 0, 1) := by decide +kernel
theorem dX6_logOf_6 : decode cX6_logOf 6 = .ok (.getfield 10, 3) := by decide +kernel
theorem dX6_logOf_9 : decode cX6_logOf 9 = .ok (.invokevirtual 47, 3) := by decide +kernel
theorem dX6_logOf_12 : decode cX6_logOf 12 = .ok (.if_icmp .lt 11, 3) := by decide +kernel
theorem dX6_logOf_15 : decode cX6_logOf 15 = .ok (.new 343, 3) := by decide +kernel
theorem dX6_logOf_18 : decode cX6_logOf 18 = .ok (.dup, 1) := by decide +kernel
theorem dX6_logOf_19 : decode cX6_logOf 19 = .ok (.invokespecial 345, 3) := by decide +kernel
theorem dX6_logOf_22 : decode cX6_logOf 22 = .ok (.athrow, 1) := by decide +kernel
theorem dX6_logOf_23 : decode cX6_logOf 23 = .ok (.aload_n 0, 1) := by decide +kernel
theorem dX6_logOf_24 : decode cX6_logOf 24 = .ok (.getfield 10, 3) := by decide +kernel
theorem dX6_logOf_27 : decode cX6_logOf 27 = .ok (.iload_n 1, 1) := by decide +kernel
theorem dX6_logOf_28 : decode cX6_logOf 28 = .ok (.invokevirtual 216, 3) := by decide +kernel
theorem dX6_logOf_31 : decode cX6_logOf 31 = .ok (.checkcast 54, 3) := by decide +kernel
theorem dX6_logOf_34 : decode cX6_logOf 34 = .ok (.areturn, 1) := by decide +kernel
theorem dX6_flitchOf_0 : decode cX6_flitchOf 0 = .ok (.iload_n 1, 1) := by decide +kernel
theorem dX6_flitchOf_1 : decode cX6_flitchOf 1 = .ok (.ifCond .lt 14, 3) := by decide +kernel
theorem dX6_flitchOf_4 : decode cX6_flitchOf 4 = .ok (.iload_n 1, 1) := by decide +kernel
theorem dX6_flitchOf_5 : decode cX6_flitchOf 5 = .ok (.aload_n 0, 1) := by decide +kernel
theorem dX6_flitchOf_6 : decode cX6_flitchOf 6 = .ok (.getfield 16, 3) := by decide +kernel
theorem dX6_flitchOf_9 : decode cX6_flitchOf 9 = .ok (.invokevirtual 47, 3) := by decide +kernel
theorem dX6_flitchOf_12 : decode cX6_flitchOf 12 = .ok (.if_icmp .lt 11, 3) := by decide +kernel
theorem dX6_flitchOf_15 : decode cX6_flitchOf 15 = .ok (.new 343, 3) := by decide +kernel
theorem dX6_flitchOf_18 : decode cX6_flitchOf 18 = .ok (.dup, 1) := by decide +kernel
theorem dX6_flitchOf_19 : decode cX6_flitchOf 19 = .ok (.invokespecial 345, 3) := by decide +kernel
theorem dX6_flitchOf_22 : decode cX6_flitchOf 22 = .ok (.athrow, 1) := by decide +kernel
theorem dX6_flitchOf_23 : decode cX6_flitchOf 23 = .ok (.aload_n 0, 1) := by decide +kernel
theorem dX6_flitchOf_24 : decode cX6_flitchOf 24 = .ok (.getfield 16, 3) := by decide +kernel
theorem dX6_flitchOf_27 : decode cX6_flitchOf 27 = .ok (.iload_n 1, 1) := by decide +kernel
theorem dX6_flitchOf_28 : decode cX6_flitchOf 28 = .ok (.invokevirtual 216, 3) := by decide +kernel
theorem dX6_flitchOf_31 : decode cX6_flitchOf 31 = .ok (.checkcast 76, 3) := by decide +kernel
theorem dX6_flitchOf_34 : decode cX6_flitchOf 34 = .ok (.areturn, 1) := by decide +kernel
theorem dX6_flitchWithLeaf_0 : decode cX6_flitchWithLeaf 0 = .ok (.aload_n 0, 1) := by decide +kernel
theorem dX6_flitchWithLeaf_1 : decode cX6_flitchWithLeaf 1 = .ok (.iload_n 1, 1) := by decide +kernel
theorem dX6_flitchWithLeaf_2 : decode cX6_flitchWithLeaf 2 = .ok (.iload_n 2, 1) := by decide +kernel
theorem dX6_flitchWithLeaf_3 : decode cX6_flitchWithLeaf 3 = .ok (.iconst 1, 1) := by decide +kernel
theorem dX6_flitchWithLeaf_4 : decode cX6_flitchWithLeaf 4 = .ok (.invokevirtual 117, 3) := by decide +kernel
theorem dX6_flitchWithLeaf_7 : decode cX6_flitchWithLeaf 7 = .ok (.areturn, 1) := by decide +kernel
theorem dX6_flitchWithLeaves_0 : decode cX6_flitchWithLeaves 0 = .ok (.aload_n 0, 1) := by decide +kernel
theorem dX6_flitchWithLeaves_1 : decode cX6_flitchWithLeaves 1 = .ok (.iload_n 1, 1) := by decide +kernel
theorem dX6_flitchWithLeaves_2 : decode cX6_flitchWithLeaves 2 = .ok (.invokevirtual 81, 3) := by decide +kernel
theorem dX6_flitchWithLeaves_5 : decode cX6_flitchWithLeaves 5 = .ok (.astore 4, 2) := by decide +kernel
theorem dX6_flitchWithLeaves_7 : decode cX6_flitchWithLeaves 7 = .ok (.iload_n 2, 1) := by decide +kernel
theorem dX6_flitchWithLeaves_8 : decode cX6_flitchWithLeaves 8 = .ok (.ifCond .lt 23, 3) := by decide +kernel
theorem dX6_flitchWithLeaves_11 : decode cX6_flitchWithLeaves 11 = .ok (.iload_n 2, 1) := by decide +kernel
theorem dX6_flitchWithLeaves_12 : decode cX6_flitchWithLeaves 12 = .ok (.aload 4, 2) := by decide +kernel
theorem dX6_flitchWithLeaves_14 : decode cX6_flitchWithLeaves 14 = .ok (.getfield 85, 3) := by decide +kernel
theorem dX6_flitchWithLeaves_17 : decode cX6_flitchWithLeaves 17 = .ok (.if_icmp .ge 14, 3) := by decide +kernel
theorem dX6_flitchWithLeaves_20 : decode cX6_flitchWithLeaves 20 = .ok (.iload_n 3, 1) := by decide +kernel
theorem dX6_flitchWithLeaves_21 : decode cX6_flitchWithLeaves 21 = .ok (.aload 4, 2) := by decide +kernel
theorem dX6_flitchWithLeaves_23 : decode cX6_flitchWithLeaves 23 = .ok (.getfield 85, 3) := by decide +kernel
theorem dX6_flitchWithLeaves_26 : decode cX6_flitchWithLeaves 26 = .ok (.iload_n 2, 1) := by decide +kernel
theorem dX6_flitchWithLeaves_27 : decode cX6_flitchWithLeaves 27 = .ok (.isub, 1) := by decide +kernel
theorem dX6_flitchWithLeaves_28 : decode cX6_flitchWithLeaves 28 = .ok (.if_icmp .le 11, 3) := by decide +kernel
theorem dX6_flitchWithLeaves_31 : decode cX6_flitchWithLeaves 31 = .ok (.new 343, 3) := by decide +kernel
theorem dX6_flitchWithLeaves_34 : decode cX6_flitchWithLeaves 34 = .ok (.dup, 1) := by decide +kernel
theorem dX6_flitchWithLeaves_35 : decode cX6_flitchWithLeaves 35 = .ok (.invokespecial 345, 3) := by decide +kernel
theorem dX6_flitchWithLeaves_38 : decode cX6_flitchWithLeaves 38 = .ok (.athrow, 1) := by decide +kernel
theorem dX6_flitchWithLeaves_39 : decode cX6_flitchWithLeaves 39 = .ok (.aload 4, 2) := by decide +kernel
theorem dX6_flitchWithLeaves_41 : decode cX6_flitchWithLeaves 41 = .ok (.areturn, 1) := by decide +kernel
theorem dX6_panelOf_0 : decode cX6_panelOf 0 = .ok (.iload_n 1, 1) := by decide +kernel
theorem dX6_panelOf_1 : decode cX6_panelOf 1 = .ok (.ifCond .lt 14, 3) := by decide +kernel
theorem dX6_panelOf_4 : decode cX6_panelOf 4 = .ok (.iload_n 1, 1) := by decide +kernel
theorem dX6_panelOf_5 : decode cX6_panelOf 5 = .ok (.aload_n 0, 1) := by decide +kernel
theorem dX6_panelOf_6 : decode cX6_panelOf 6 = .ok (.getfield 19, 3) := by decide +kernel
theorem dX6_panelOf_9 : decode cX6_panelOf 9 = .ok (.invokevirtual 47, 3) := by decide +kernel
theorem dX6_panelOf_12 : decode cX6_panelOf 12 = .ok (.if_icmp .lt 11, 3) := by decide +kernel
theorem dX6_panelOf_15 : decode cX6_panelOf 15 = .ok (.new 343, 3) := by decide +kernel
theorem dX6_panelOf_18 : decode cX6_panelOf 18 = .ok (.dup, 1) := by decide +kernel
theorem dX6_panelOf_19 : decode cX6_panelOf 19 = .ok (.invokespecial 345, 3) := by decide +kernel
theorem dX6_panelOf_22 : decode cX6_panelOf 22 = .ok (.athrow, 1) := by decide +kernel
theorem dX6_panelOf_23 : decode cX6_panelOf 23 = .ok (.aload_n 0, 1) := by decide +kernel
theorem dX6_panelOf_24 : decode cX6_panelOf 24 = .ok (.getfield 19, 3) := by decide +kernel
theorem dX6_panelOf_27 : decode cX6_panelOf 27 = .ok (.iload_n 1, 1) := by decide +kernel
theorem dX6_panelOf_28 : decode cX6_panelOf 28 = .ok (.invokevirtual 216, 3) := by decide +kernel
theorem dX6_panelOf_31 : decode cX6_panelOf 31 = .ok (.checkcast 108, 3) := by decide +kernel
theorem dX6_panelOf_34 : decode cX6_panelOf 34 = .ok (.areturn, 1) := by decide +kernel
theorem dX6_pressedOnly_0 : decode cX6_pressedOnly 0 = .ok (.aload_n 0, 1) := by decide +kernel
theorem dX6_pressedOnly_1 : decode cX6_pressedOnly 1 = .ok (.getfield 162, 3) := by decide +kernel
theorem dX6_pressedOnly_4 : decode cX6_pressedOnly 4 = .ok (.ifCond .ne 11, 3) := by decide +kernel
theorem dX6_pressedOnly_7 : decode cX6_pressedOnly 7 = .ok (.new 73, 3) := by decide +kernel
theorem dX6_pressedOnly_10 : decode cX6_pressedOnly 10 = .ok (.dup, 1) := by decide +kernel
theorem dX6_pressedOnly_11 : decode cX6_pressedOnly 11 = .ok (.invokespecial 75, 3) := by decide +kernel
theorem dX6_pressedOnly_14 : decode cX6_pressedOnly 14 = .ok (.athrow, 1) := by decide +kernel
theorem dX6_pressedOnly_15 : decode cX6_pressedOnly 15 = .ok (.aload_n 0, 1) := by decide +kernel
theorem dX6_pressedOnly_16 : decode cX6_pressedOnly 16 = .ok (.areturn, 1) := by decide +kernel
theorem dX6_pictureOf_0 : decode cX6_pictureOf 0 = .ok (.iload_n 1, 1) := by decide +kernel
theorem dX6_pictureOf_1 : decode cX6_pictureOf 1 = .ok (.ifCond .lt 14, 3) := by decide +kernel
theorem dX6_pictureOf_4 : decode cX6_pictureOf 4 = .ok (.iload_n 1, 1) := by decide +kernel
theorem dX6_pictureOf_5 : decode cX6_pictureOf 5 = .ok (.aload_n 0, 1) := by decide +kernel
theorem dX6_pictureOf_6 : decode cX6_pictureOf 6 = .ok (.getfield 22, 3) := by decide +kernel
theorem dX6_pictureOf_9 : decode cX6_pictureOf 9 = .ok (.invokevirtual 47, 3) := by decide +kernel
theorem dX6_pictureOf_12 : decode cX6_pictureOf 12 = .ok (.if_icmp .lt 11, 3) := by decide +kernel
theorem dX6_pictureOf_15 : decode cX6_pictureOf 15 = .ok (.new 343, 3) := by decide +kernel
theorem dX6_pictureOf_18 : decode cX6_pictureOf 18 = .ok (.dup, 1) := by decide +kernel
theorem dX6_pictureOf_19 : decode cX6_pictureOf 19 = .ok (.invokespecial 345, 3) := by decide +kernel
theorem dX6_pictureOf_22 : decode cX6_pictureOf 22 = .ok (.athrow, 1) := by decide +kernel
theorem dX6_pictureOf_23 : decode cX6_pictureOf 23 = .ok (.aload_n 0, 1) := by decide +kernel
theorem dX6_pictureOf_24 : decode cX6_pictureOf 24 = .ok (.getfield 22, 3) := by decide +kernel
theorem dX6_pictureOf_27 : decode cX6_pictureOf 27 = .ok (.iload_n 1, 1) := by decide +kernel
theorem dX6_pictureOf_28 : decode cX6_pictureOf 28 = .ok (.invokevirtual 216, 3) := by decide +kernel
theorem dX6_pictureOf_31 : decode cX6_pictureOf 31 = .ok (.checkcast 226, 3) := by decide +kernel
theorem dX6_pictureOf_34 : decode cX6_pictureOf 34 = .ok (.areturn, 1) := by decide +kernel
theorem dX6_pictureWithPlace_0 : decode cX6_pictureWithPlace 0 = .ok (.aload_n 0, 1) := by decide +kernel
theorem dX6_pictureWithPlace_1 : decode cX6_pictureWithPlace 1 = .ok (.iload_n 1, 1) := by decide +kernel
theorem dX6_pictureWithPlace_2 : decode cX6_pictureWithPlace 2 = .ok (.invokevirtual 229, 3) := by decide +kernel
theorem dX6_pictureWithPlace_5 : decode cX6_pictureWithPlace 5 = .ok (.astore 4, 2) := by decide +kernel
theorem dX6_pictureWithPlace_7 : decode cX6_pictureWithPlace 7 = .ok (.iload_n 2, 1) := by decide +kernel
theorem dX6_pictureWithPlace_8 : decode cX6_pictureWithPlace 8 = .ok (.iload_n 3, 1) := by decide +kernel
theorem dX6_pictureWithPlace_9 : decode cX6_pictureWithPlace 9 = .ok (.invokestatic 233, 3) := by decide +kernel
theorem dX6_pictureWithPlace_12 : decode cX6_pictureWithPlace 12 = .ok (.ifCond .ne 11, 3) := by decide +kernel
theorem dX6_pictureWithPlace_15 : decode cX6_pictureWithPlace 15 = .ok (.new 343, 3) := by decide +kernel
theorem dX6_pictureWithPlace_18 : decode cX6_pictureWithPlace 18 = .ok (.dup, 1) := by decide +kernel
theorem dX6_pictureWithPlace_19 : decode cX6_pictureWithPlace 19 = .ok (.invokespecial 345, 3) := by decide +kernel
theorem dX6_pictureWithPlace_22 : decode cX6_pictureWithPlace 22 = .ok (.athrow, 1) := by decide +kernel
theorem dX6_pictureWithPlace_23 : decode cX6_pictureWithPlace 23 = .ok (.aload 4, 2) := by decide +kernel
theorem dX6_pictureWithPlace_25 : decode cX6_pictureWithPlace 25 = .ok (.areturn, 1) := by decide +kernel
theorem dX6_packetWithCopy_0 : decode cX6_packetWithCopy 0 = .ok (.aload_n 0, 1) := by decide +kernel
theorem dX6_packetWithCopy_1 : decode cX6_packetWithCopy 1 = .ok (.getfield 241, 3) := by decide +kernel
theorem dX6_packetWithCopy_4 : decode cX6_packetWithCopy 4 = .ok (.astore_n 2, 1) := by decide +kernel
theorem dX6_packetWithCopy_5 : decode cX6_packetWithCopy 5 = .ok (.aload_n 2, 1) := by decide +kernel
theorem dX6_packetWithCopy_6 : decode cX6_packetWithCopy 6 = .ok (.ifnull 15, 3) := by decide +kernel
theorem dX6_packetWithCopy_9 : decode cX6_packetWithCopy 9 = .ok (.iload_n 1, 1) := by decide +kernel
theorem dX6_packetWithCopy_10 : decode cX6_packetWithCopy 10 = .ok (.ifCond .lt 11, 3) := by decide +kernel
theorem dX6_packetWithCopy_13 : decode cX6_packetWithCopy 13 = .ok (.iload_n 1, 1) := by decide +kernel
theorem dX6_packetWithCopy_14 : decode cX6_packetWithCopy 14 = .ok (.aload_n 2, 1) := by decide +kernel
theorem dX6_packetWithCopy_15 : decode cX6_packetWithCopy 15 = .ok (.getfield 177, 3) := by decide +kernel
theorem dX6_packetWithCopy_18 : decode cX6_packetWithCopy 18 = .ok (.if_icmp .lt 11, 3) := by decide +kernel
theorem dX6_packetWithCopy_21 : decode cX6_packetWithCopy 21 = .ok (.new 168, 3) := by decide +kernel
theorem dX6_packetWithCopy_24 : decode cX6_packetWithCopy 24 = .ok (.dup, 1) := by decide +kernel
theorem dX6_packetWithCopy_25 : decode cX6_packetWithCopy 25 = .ok (.invokespecial 170, 3) := by decide +kernel
theorem dX6_packetWithCopy_28 : decode cX6_packetWithCopy 28 = .ok (.athrow, 1) := by decide +kernel
theorem dX6_packetWithCopy_29 : decode cX6_packetWithCopy 29 = .ok (.aload_n 2, 1) := by decide +kernel
theorem dX6_packetWithCopy_30 : decode cX6_packetWithCopy 30 = .ok (.areturn, 1) := by decide +kernel
theorem dX6_isIn_0 : decode cX6_isIn 0 = .ok (.iload_n 0, 1) := by decide +kernel
theorem dX6_isIn_1 : decode cX6_isIn 1 = .ok (.iload_n 1, 1) := by decide +kernel
theorem dX6_isIn_2 : decode cX6_isIn 2 = .ok (.if_icmp .lt 12, 3) := by decide +kernel
theorem dX6_isIn_5 : decode cX6_isIn 5 = .ok (.iload_n 0, 1) := by decide +kernel
theorem dX6_isIn_6 : decode cX6_isIn 6 = .ok (.iload_n 2, 1) := by decide +kernel
theorem dX6_isIn_7 : decode cX6_isIn 7 = .ok (.if_icmp .gt 7, 3) := by decide +kernel
theorem dX6_isIn_10 : decode cX6_isIn 10 = .ok (.iconst 1, 1) := by decide +kernel
theorem dX6_isIn_11 : decode cX6_isIn 11 = .ok (.goto 4, 3) := by decide +kernel
theorem dX6_isIn_14 : decode cX6_isIn 14 = .ok (.iconst 0, 1) := by decide +kernel
theorem dX6_isIn_15 : decode cX6_isIn 15 = .ok (.ireturn, 1) := by decide +kernel
theorem dX6_within_0 : decode cX6_within 0 = .ok (.iload_n 1, 1) := by decide +kernel
theorem dX6_within_1 : decode cX6_within 1 = .ok (.iload_n 2, 1) := by decide +kernel
theorem dX6_within_2 : decode cX6_within 2 = .ok (.iload_n 0, 1) := by decide +kernel
theorem dX6_within_3 : decode cX6_within 3 = .ok (.invokestatic 346, 3) := by decide +kernel
theorem dX6_within_6 : decode cX6_within 6 = .ok (.invokestatic 203, 3) := by decide +kernel
theorem dX6_within_9 : decode cX6_within 9 = .ok (.ireturn, 1) := by decide +kernel
theorem dX6_isOneOf_0 : decode cX6_isOneOf 0 = .ok (.aload_n 0, 1) := by decide +kernel
theorem dX6_isOneOf_1 : decode cX6_isOneOf 1 = .ok (.iload_n 1, 1) := by decide +kernel
theorem dX6_isOneOf_2 : decode cX6_isOneOf 2 = .ok (.invokevirtual 349, 3) := by decide +kernel
theorem dX6_isOneOf_5 : decode cX6_isOneOf 5 = .ok (.ifCond .lt 7, 3) := by decide +kernel
theorem dX6_isOneOf_8 : decode cX6_isOneOf 8 = .ok (.iconst 1, 1) := by decide +kernel
theorem dX6_isOneOf_9 : decode cX6_isOneOf 9 = .ok (.goto 4, 3) := by decide +kernel
theorem dX6_isOneOf_12 : decode cX6_isOneOf 12 = .ok (.iconst 0, 1) := by decide +kernel
theorem dX6_isOneOf_13 : decode cX6_isOneOf 13 = .ok (.ireturn, 1) := by decide +kernel
theorem dX6_isField_0 : decode cX6_isField 0 = .ok (.iload_n 0, 1) := by decide +kernel
theorem dX6_isField_1 : decode cX6_isField 1 = .ok (.bipush 97, 2) := by decide +kernel
theorem dX6_isField_3 : decode cX6_isField 3 = .ok (.isub, 1) := by decide +kernel
theorem dX6_isField_4 : decode cX6_isField 4 = .ok (.iconst 0, 1) := by decide +kernel
theorem dX6_isField_5 : decode cX6_isField 5 = .ok (.bipush 7, 2) := by decide +kernel
theorem dX6_isField_7 : decode cX6_isField 7 = .ok (.invokestatic 40, 3) := by decide +kernel
theorem dX6_isField_10 : decode cX6_isField 10 = .ok (.ireturn, 1) := by decide +kernel
theorem dX6_isPlace_0 : decode cX6_isPlace 0 = .ok (.iload_n 0, 1) := by decide +kernel
theorem dX6_isPlace_1 : decode cX6_isPlace 1 = .ok (.iconst 0, 1) := by decide +kernel
theorem dX6_isPlace_2 : decode cX6_isPlace 2 = .ok (.bipush 7, 2) := by decide +kernel
theorem dX6_isPlace_4 : decode cX6_isPlace 4 = .ok (.invokestatic 40, 3) := by decide +kernel
theorem dX6_isPlace_7 : decode cX6_isPlace 7 = .ok (.ifCond .eq 17, 3) := by decide +kernel
theorem dX6_isPlace_10 : decode cX6_isPlace 10 = .ok (.iload_n 1, 1) := by decide +kernel
theorem dX6_isPlace_11 : decode cX6_isPlace 11 = .ok (.iconst 0, 1) := by decide +kernel
theorem dX6_isPlace_12 : decode cX6_isPlace 12 = .ok (.bipush 7, 2) := by decide +kernel
theorem dX6_isPlace_14 : decode cX6_isPlace 14 = .ok (.invokestatic 40, 3) := by decide +kernel
theorem dX6_isPlace_17 : decode cX6_isPlace 17 = .ok (.ifCond .eq 7, 3) := by decide +kernel
theorem dX6_isPlace_20 : decode cX6_isPlace 20 = .ok (.iconst 1, 1) := by decide +kernel
theorem dX6_isPlace_21 : decode cX6_isPlace 21 = .ok (.goto 4, 3) := by decide +kernel
theorem dX6_isPlace_24 : decode cX6_isPlace 24 = .ok (.iconst 0, 1) := by decide +kernel
theorem dX6_isPlace_25 : decode cX6_isPlace 25 = .ok (.ireturn, 1) := by decide +kernel
theorem dX6_neighbour_0 : decode cX6_neighbour 0 = .ok (.iload_n 0, 1) := by decide +kernel
theorem dX6_neighbour_1 : decode cX6_neighbour 1 = .ok (.bipush 8, 2) := by decide +kernel
theorem dX6_neighbour_3 : decode cX6_neighbour 3 = .ok (.idiv, 1) := by decide +kernel
theorem dX6_neighbour_4 : decode cX6_neighbour 4 = .ok (.istore_n 2, 1) := by decide +kernel
theorem dX6_neighbour_5 : decode cX6_neighbour 5 = .ok (.iload_n 0, 1) := by decide +kernel
theorem dX6_neighbour_6 : decode cX6_neighbour 6 = .ok (.bipush 8, 2) := by decide +kernel
theorem dX6_neighbour_8 : decode cX6_neighbour 8 = .ok (.irem, 1) := by decide +kernel
theorem dX6_neighbour_9 : decode cX6_neighbour 9 = .ok (.istore_n 3, 1) := by decide +kernel
theorem dX6_neighbour_10 : decode cX6_neighbour 10 = .ok (.iload_n 1, 1) := by decide +kernel
theorem dX6_neighbour_11 : decode cX6_neighbour 11 = .ok (.tableswitch 66 0 2 #[25, 39, 54], 25) := by decide +kernel
theorem dX6_neighbour_36 : decode cX6_neighbour 36 = .ok (.iload_n 3, 1) := by decide +kernel
theorem dX6_neighbour_37 : decode cX6_neighbour 37 = .ok (.bipush 7, 2) := by decide +kernel
theorem dX6_neighbour_39 : decode cX6_neighbour 39 = .ok (.if_icmp .ge 9, 3) := by decide +kernel
theorem dX6_neighbour_42 : decode cX6_neighbour 42 = .ok (.iload_n 0, 1) := by decide +kernel
theorem dX6_neighbour_43 : decode cX6_neighbour 43 = .ok (.iconst 1, 1) := by decide +kernel
theorem dX6_neighbour_44 : decode cX6_neighbour 44 = .ok (.iadd, 1) := by decide +kernel
theorem dX6_neighbour_45 : decode cX6_neighbour 45 = .ok (.goto 4, 3) := by decide +kernel
theorem dX6_neighbour_48 : decode cX6_neighbour 48 = .ok (.iconst (-1), 1) := by decide +kernel
theorem dX6_neighbour_49 : decode cX6_neighbour 49 = .ok (.ireturn, 1) := by decide +kernel
theorem dX6_neighbour_50 : decode cX6_neighbour 50 = .ok (.iload_n 2, 1) := by decide +kernel
theorem dX6_neighbour_51 : decode cX6_neighbour 51 = .ok (.bipush 7, 2) := by decide +kernel
theorem dX6_neighbour_53 : decode cX6_neighbour 53 = .ok (.if_icmp .ge 10, 3) := by decide +kernel
theorem dX6_neighbour_56 : decode cX6_neighbour 56 = .ok (.iload_n 0, 1) := by decide +kernel
theorem dX6_neighbour_57 : decode cX6_neighbour 57 = .ok (.bipush 8, 2) := by decide +kernel
theorem dX6_neighbour_59 : decode cX6_neighbour 59 = .ok (.iadd, 1) := by decide +kernel
theorem dX6_neighbour_60 : decode cX6_neighbour 60 = .ok (.goto 4, 3) := by decide +kernel
theorem dX6_neighbour_63 : decode cX6_neighbour 63 = .ok (.iconst (-1), 1) := by decide +kernel
theorem dX6_neighbour_64 : decode cX6_neighbour 64 = .ok (.ireturn, 1) := by decide +kernel
theorem dX6_neighbour_65 : decode cX6_neighbour 65 = .ok (.iload_n 3, 1) := by decide +kernel
theorem dX6_neighbour_66 : decode cX6_neighbour 66 = .ok (.ifCond .le 9, 3) := by decide +kernel
theorem dX6_neighbour_69 : decode cX6_neighbour 69 = .ok (.iload_n 0, 1) := by decide +kernel
theorem dX6_neighbour_70 : decode cX6_neighbour 70 = .ok (.iconst 1, 1) := by decide +kernel
theorem dX6_neighbour_71 : decode cX6_neighbour 71 = .ok (.isub, 1) := by decide +kernel
theorem dX6_neighbour_72 : decode cX6_neighbour 72 = .ok (.goto 4, 3) := by decide +kernel
theorem dX6_neighbour_75 : decode cX6_neighbour 75 = .ok (.iconst (-1), 1) := by decide +kernel
theorem dX6_neighbour_76 : decode cX6_neighbour 76 = .ok (.ireturn, 1) := by decide +kernel
theorem dX6_neighbour_77 : decode cX6_neighbour 77 = .ok (.iload_n 2, 1) := by decide +kernel
theorem dX6_neighbour_78 : decode cX6_neighbour 78 = .ok (.ifCond .le 10, 3) := by decide +kernel
theorem dX6_neighbour_81 : decode cX6_neighbour 81 = .ok (.iload_n 0, 1) := by decide +kernel
theorem dX6_neighbour_82 : decode cX6_neighbour 82 = .ok (.bipush 8, 2) := by decide +kernel
theorem dX6_neighbour_84 : decode cX6_neighbour 84 = .ok (.isub, 1) := by decide +kernel
theorem dX6_neighbour_85 : decode cX6_neighbour 85 = .ok (.goto 4, 3) := by decide +kernel
theorem dX6_neighbour_88 : decode cX6_neighbour 88 = .ok (.iconst (-1), 1) := by decide +kernel
theorem dX6_neighbour_89 : decode cX6_neighbour 89 = .ok (.ireturn, 1) := by decide +kernel
theorem dX6_stripOf_0 : decode cX6_stripOf 0 = .ok (.iload_n 1, 1) := by decide +kernel
theorem dX6_stripOf_1 : decode cX6_stripOf 1 = .ok (.ifCond .gt 10, 3) := by decide +kernel
theorem dX6_stripOf_4 : decode cX6_stripOf 4 = .ok (.aload_n 0, 1) := by decide +kernel
theorem dX6_stripOf_5 : decode cX6_stripOf 5 = .ok (.getfield 354, 3) := by decide +kernel
theorem dX6_stripOf_8 : decode cX6_stripOf 8 = .ok (.goto 13, 3) := by decide +kernel
theorem dX6_stripOf_11 : decode cX6_stripOf 11 = .ok (.aload_n 0, 1) := by decide +kernel
theorem dX6_stripOf_12 : decode cX6_stripOf 12 = .ok (.getfield 354, 3) := by decide +kernel
theorem dX6_stripOf_15 : decode cX6_stripOf 15 = .ok (.iload_n 1, 1) := by decide +kernel
theorem dX6_stripOf_16 : decode cX6_stripOf 16 = .ok (.iadd, 1) := by decide +kernel
theorem dX6_stripOf_17 : decode cX6_stripOf 17 = .ok (.iconst 1, 1) := by decide +kernel
theorem dX6_stripOf_18 : decode cX6_stripOf 18 = .ok (.isub, 1) := by decide +kernel
theorem dX6_stripOf_19 : decode cX6_stripOf 19 = .ok (.iload_n 1, 1) := by decide +kernel
theorem dX6_stripOf_20 : decode cX6_stripOf 20 = .ok (.idiv, 1) := by decide +kernel
theorem dX6_stripOf_21 : decode cX6_stripOf 21 = .ok (.ireturn, 1) := by decide +kernel
theorem dX6_canCover_0 : decode cX6_canCover 0 = .ok (.aload_n 1, 1) := by decide +kernel
theorem dX6_canCover_1 : decode cX6_canCover 1 = .ok (.getfield 355, 3) := by decide +kernel
theorem dX6_canCover_4 : decode cX6_canCover 4 = .ok (.aload_n 0, 1) := by decide +kernel
theorem dX6_canCover_5 : decode cX6_canCover 5 = .ok (.getfield 358, 3) := by decide +kernel
theorem dX6_canCover_8 : decode cX6_canCover 8 = .ok (.if_icmp .lt 7, 3) := by decide +kernel
theorem dX6_canCover_11 : decode cX6_canCover 11 = .ok (.iconst 1, 1) := by decide +kernel
theorem dX6_canCover_12 : decode cX6_canCover 12 = .ok (.goto 4, 3) := by decide +kernel
theorem dX6_canCover_15 : decode cX6_canCover 15 = .ok (.iconst 0, 1) := by decide +kernel
theorem dX6_canCover_16 : decode cX6_canCover 16 = .ok (.istore 4, 2) := by decide +kernel
theorem dX6_canCover_18 : decode cX6_canCover 18 = .ok (.iload 4, 2) := by decide +kernel
theorem dX6_canCover_20 : decode cX6_canCover 20 = .ok (.ifCond .eq 21, 3) := by decide +kernel
theorem dX6_canCover_23 : decode cX6_canCover 23 = .ok (.aload_n 1, 1) := by decide +kernel
theorem dX6_canCover_24 : decode cX6_canCover 24 = .ok (.iload_n 2, 1) := by decide +kernel
theorem dX6_canCover_25 : decode cX6_canCover 25 = .ok (.iload_n 3, 1) := by decide +kernel
theorem dX6_canCover_26 : decode cX6_canCover 26 = .ok (.aload_n 0, 1) := by decide +kernel
theorem dX6_canCover_27 : decode cX6_canCover 27 = .ok (.iload_n 3, 1) := by decide +kernel
theorem dX6_canCover_28 : decode cX6_canCover 28 = .ok (.invokestatic 359, 3) := by decide +kernel
theorem dX6_canCover_31 : decode cX6_canCover 31 = .ok (.invokevirtual 261, 3) := by decide +kernel
theorem dX6_canCover_34 : decode cX6_canCover 34 = .ok (.ifCond .eq 7, 3) := by decide +kernel
theorem dX6_canCover_37 : decode cX6_canCover 37 = .ok (.iconst 1, 1) := by decide +kernel
theorem dX6_canCover_38 : decode cX6_canCover 38 = .ok (.goto 4, 3) := by decide +kernel
theorem dX6_canCover_41 : decode cX6_canCover 41 = .ok (.iconst 0, 1) := by decide +kernel
theorem dX6_canCover_42 : decode cX6_canCover 42 = .ok (.ireturn, 1) := by decide +kernel
theorem dX6_jumpOf_0 : decode cX6_jumpOf 0 = .ok (.iload_n 3, 1) := by decide +kernel
theorem dX6_jumpOf_1 : decode cX6_jumpOf 1 = .ok (.bipush 98, 2) := by decide +kernel
theorem dX6_jumpOf_3 : decode cX6_jumpOf 3 = .ok (.if_icmp .ne 19, 3) := by decide +kernel
theorem dX6_jumpOf_6 : decode cX6_jumpOf 6 = .ok (.iload_n 2, 1) := by decide +kernel
theorem dX6_jumpOf_7 : decode cX6_jumpOf 7 = .ok (.iconst 1, 1) := by decide +kernel
theorem dX6_jumpOf_8 : decode cX6_jumpOf 8 = .ok (.if_icmp .le 14, 3) := by decide +kernel
theorem dX6_jumpOf_11 : decode cX6_jumpOf 11 = .ok (.iload_n 2, 1) := by decide +kernel
theorem dX6_jumpOf_12 : decode cX6_jumpOf 12 = .ok (.iconst 2, 1) := by decide +kernel
theorem dX6_jumpOf_13 : decode cX6_jumpOf 13 = .ok (.irem, 1) := by decide +kernel
theorem dX6_jumpOf_14 : decode cX6_jumpOf 14 = .ok (.iconst 1, 1) := by decide +kernel
theorem dX6_jumpOf_15 : decode cX6_jumpOf 15 = .ok (.if_icmp .ne 7, 3) := by decide +kernel
theorem dX6_jumpOf_18 : decode cX6_jumpOf 18 = .ok (.iconst 4, 1) := by decide +kernel
theorem dX6_jumpOf_19 : decode cX6_jumpOf 19 = .ok (.goto 4, 3) := by decide +kernel
theorem dX6_jumpOf_22 : decode cX6_jumpOf 22 = .ok (.iconst 0, 1) := by decide +kernel
theorem dX6_jumpOf_23 : decode cX6_jumpOf 23 = .ok (.istore 4, 2) := by decide +kernel
theorem dX6_jumpOf_25 : decode cX6_jumpOf 25 = .ok (.iload_n 3, 1) := by decide +kernel
theorem dX6_jumpOf_26 : decode cX6_jumpOf 26 = .ok (.bipush 115, 2) := by decide +kernel
theorem dX6_jumpOf_28 : decode cX6_jumpOf 28 = .ok (.if_icmp .ne 7, 3) := by decide +kernel
theorem dX6_jumpOf_31 : decode cX6_jumpOf 31 = .ok (.iconst 5, 1) := by decide +kernel
theorem dX6_jumpOf_32 : decode cX6_jumpOf 32 = .ok (.goto 14, 3) := by decide +kernel
theorem dX6_jumpOf_35 : decode cX6_jumpOf 35 = .ok (.iload_n 3, 1) := by decide +kernel
theorem dX6_jumpOf_36 : decode cX6_jumpOf 36 = .ok (.bipush 114, 2) := by decide +kernel
theorem dX6_jumpOf_38 : decode cX6_jumpOf 38 = .ok (.if_icmp .ne 7, 3) := by decide +kernel
theorem dX6_jumpOf_41 : decode cX6_jumpOf 41 = .ok (.iconst 3, 1) := by decide +kernel
theorem dX6_jumpOf_42 : decode cX6_jumpOf 42 = .ok (.goto 4, 3) := by decide +kernel
theorem dX6_jumpOf_45 : decode cX6_jumpOf 45 = .ok (.iconst 0, 1) := by decide +kernel
theorem dX6_jumpOf_46 : decode cX6_jumpOf 46 = .ok (.istore 5, 2) := by decide +kernel
theorem dX6_jumpOf_48 : decode cX6_jumpOf 48 = .ok (.iload_n 1, 1) := by decide +kernel
theorem dX6_jumpOf_49 : decode cX6_jumpOf 49 = .ok (.iconst 1, 1) := by decide +kernel
theorem dX6_jumpOf_50 : decode cX6_jumpOf 50 = .ok (.iadd, 1) := by decide +kernel
theorem dX6_jumpOf_51 : decode cX6_jumpOf 51 = .ok (.istore 6, 2) := by decide +kernel
theorem dX6_jumpOf_53 : decode cX6_jumpOf 53 = .ok (.iload 6, 2) := by decide +kernel
theorem dX6_jumpOf_55 : decode cX6_jumpOf 55 = .ok (.iload_n 1, 1) := by decide +kernel
theorem dX6_jumpOf_56 : decode cX6_jumpOf 56 = .ok (.iload_n 2, 1) := by decide +kernel
theorem dX6_jumpOf_57 : decode cX6_jumpOf 57 = .ok (.iadd, 1) := by decide +kernel
theorem dX6_jumpOf_58 : decode cX6_jumpOf 58 = .ok (.if_icmp .ge 35, 3) := by decide +kernel
theorem dX6_jumpOf_61 : decode cX6_jumpOf 61 = .ok (.iload 4, 2) := by decide +kernel
theorem dX6_jumpOf_63 : decode cX6_jumpOf 63 = .ok (.aload_n 0, 1) := by decide +kernel
theorem dX6_jumpOf_64 : decode cX6_jumpOf 64 = .ok (.iload 6, 2) := by decide +kernel
theorem dX6_jumpOf_66 : decode cX6_jumpOf 66 = .ok (.invokevirtual 99, 3) := by decide +kernel
theorem dX6_jumpOf_69 : decode cX6_jumpOf 69 = .ok (.aload_n 0, 1) := by decide +kernel
theorem dX6_jumpOf_70 : decode cX6_jumpOf 70 = .ok (.iload 6, 2) := by decide +kernel
theorem dX6_jumpOf_72 : decode cX6_jumpOf 72 = .ok (.iconst 1, 1) := by decide +kernel
theorem dX6_jumpOf_73 : decode cX6_jumpOf 73 = .ok (.isub, 1) := by decide +kernel
theorem dX6_jumpOf_74 : decode cX6_jumpOf 74 = .ok (.invokevirtual 99, 3) := by decide +kernel
theorem dX6_jumpOf_77 : decode cX6_jumpOf 77 = .ok (.isub, 1) := by decide +kernel
theorem dX6_jumpOf_78 : decode cX6_jumpOf 78 = .ok (.invokestatic 363, 3) := by decide +kernel
theorem dX6_jumpOf_81 : decode cX6_jumpOf 81 = .ok (.iload 5, 2) := by decide +kernel
theorem dX6_jumpOf_83 : decode cX6_jumpOf 83 = .ok (.iadd, 1) := by decide +kernel
theorem dX6_jumpOf_84 : decode cX6_jumpOf 84 = .ok (.iadd, 1) := by decide +kernel
theorem dX6_jumpOf_85 : decode cX6_jumpOf 85 = .ok (.istore 4, 2) := by decide +kernel
theorem dX6_jumpOf_87 : decode cX6_jumpOf 87 = .ok (.iinc 6 1, 3) := by decide +kernel
theorem dX6_jumpOf_90 : decode cX6_jumpOf 90 = .ok (.goto (-37), 3) := by decide +kernel
theorem dX6_jumpOf_93 : decode cX6_jumpOf 93 = .ok (.iload 4, 2) := by decide +kernel
theorem dX6_jumpOf_95 : decode cX6_jumpOf 95 = .ok (.ireturn, 1) := by decide +kernel
theorem dX6_edgeContrast_0 : decode cX6_edgeContrast 0 = .ok (.iload 4, 2) := by decide +kernel
theorem dX6_edgeContrast_2 : decode cX6_edgeContrast 2 = .ok (.ifCond .lt 17, 3) := by decide +kernel
theorem dX6_edgeContrast_5 : decode cX6_edgeContrast 5 = .ok (.aload_n 0, 1) := by decide +kernel
theorem dX6_edgeContrast_6 : decode cX6_edgeContrast 6 = .ok (.iload_n 3, 1) := by decide +kernel
theorem dX6_edgeContrast_7 : decode cX6_edgeContrast 7 = .ok (.invokevirtual 255, 3) := by decide +kernel
theorem dX6_edgeContrast_10 : decode cX6_edgeContrast 10 = .ok (.aload_n 0, 1) := by decide +kernel
theorem dX6_edgeContrast_11 : decode cX6_edgeContrast 11 = .ok (.iload 4, 2) := by decide +kernel
theorem dX6_edgeContrast_13 : decode cX6_edgeContrast 13 = .ok (.invokevirtual 255, 3) := by decide +kernel
theorem dX6_edgeContrast_16 : decode cX6_edgeContrast 16 = .ok (.if_icmp .ne 5, 3) := by decide +kernel
theorem dX6_edgeContrast_19 : decode cX6_edgeContrast 19 = .ok (.iconst 0, 1) := by decide +kernel
theorem dX6_edgeContrast_20 : decode cX6_edgeContrast 20 = .ok (.ireturn, 1) := by decide +kernel
theorem dX6_edgeContrast_21 : decode cX6_edgeContrast 21 = .ok (.aload_n 1, 1) := by decide +kernel
theorem dX6_edgeContrast_22 : decode cX6_edgeContrast 22 = .ok (.getfield 366, 3) := by decide +kernel
theorem dX6_edgeContrast_25 : decode cX6_edgeContrast 25 = .ok (.aload_n 1, 1) := by decide +kernel
theorem dX6_edgeContrast_26 : decode cX6_edgeContrast 26 = .ok (.aload_n 0, 1) := by decide +kernel
theorem dX6_edgeContrast_27 : decode cX6_edgeContrast 27 = .ok (.iload_n 3, 1) := by decide +kernel
theorem dX6_edgeContrast_28 : decode cX6_edgeContrast 28 = .ok (.invokevirtual 255, 3) := by decide +kernel
theorem dX6_edgeContrast_31 : decode cX6_edgeContrast 31 = .ok (.iload_n 2, 1) := by decide +kernel
theorem dX6_edgeContrast_32 : decode cX6_edgeContrast 32 = .ok (.invokevirtual 277, 3) := by decide +kernel
theorem dX6_edgeContrast_35 : decode cX6_edgeContrast 35 = .ok (.invokevirtual 99, 3) := by decide +kernel
theorem dX6_edgeContrast_38 : decode cX6_edgeContrast 38 = .ok (.istore 5, 2) := by decide +kernel
theorem dX6_edgeContrast_40 : decode cX6_edgeContrast 40 = .ok (.aload_n 1, 1) := by decide +kernel
theorem dX6_edgeContrast_41 : decode cX6_edgeContrast 41 = .ok (.getfield 366, 3) := by decide +kernel
theorem dX6_edgeContrast_44 : decode cX6_edgeContrast 44 = .ok (.aload_n 1, 1) := by decide +kernel
theorem dX6_edgeContrast_45 : decode cX6_edgeContrast 45 = .ok (.aload_n 0, 1) := by decide +kernel
theorem dX6_edgeContrast_46 : decode cX6_edgeContrast 46 = .ok (.iload 4, 2) := by decide +kernel
theorem dX6_edgeContrast_48 : decode cX6_edgeContrast 48 = .ok (.invokevirtual 255, 3) := by decide +kernel
theorem dX6_edgeContrast_51 : decode cX6_edgeContrast 51 = .ok (.iload_n 2, 1) := by decide +kernel
theorem dX6_edgeContrast_52 : decode cX6_edgeContrast 52 = .ok (.invokevirtual 277, 3) := by decide +kernel
theorem dX6_edgeContrast_55 : decode cX6_edgeContrast 55 = .ok (.invokevirtual 99, 3) := by decide +kernel
theorem dX6_edgeContrast_58 : decode cX6_edgeContrast 58 = .ok (.istore 6, 2) := by decide +kernel
theorem dX6_edgeContrast_60 : decode cX6_edgeContrast 60 = .ok (.iload 5, 2) := by decide +kernel
theorem dX6_edgeContrast_62 : decode cX6_edgeContrast 62 = .ok (.iload 6, 2) := by decide +kernel
theorem dX6_edgeContrast_64 : decode cX6_edgeContrast 64 = .ok (.isub, 1) := by decide +kernel
theorem dX6_edgeContrast_65 : decode cX6_edgeContrast 65 = .ok (.invokestatic 363, 3) := by decide +kernel
theorem dX6_edgeContrast_68 : decode cX6_edgeContrast 68 = .ok (.ireturn, 1) := by decide +kernel
theorem dX6_layOn_0 : decode cX6_layOn 0 = .ok (.aload_n 1, 1) := by decide +kernel
theorem dX6_layOn_1 : decode cX6_layOn 1 = .ok (.aload_n 2, 1) := by decide +kernel
theorem dX6_layOn_2 : decode cX6_layOn 2 = .ok (.getfield 177, 3) := by decide +kernel
theorem dX6_layOn_5 : decode cX6_layOn 5 = .ok (.invokestatic 359, 3) := by decide +kernel
theorem dX6_layOn_8 : decode cX6_layOn 8 = .ok (.istore_n 3, 1) := by decide +kernel
theorem dX6_layOn_9 : decode cX6_layOn 9 = .ok (.aload_n 2, 1) := by decide +kernel
theorem dX6_layOn_10 : decode cX6_layOn 10 = .ok (.getfield 366, 3) := by decide +kernel
theorem dX6_layOn_13 : decode cX6_layOn 13 = .ok (.aload_n 2, 1) := by decide +kernel
theorem dX6_layOn_14 : decode cX6_layOn 14 = .ok (.getfield 370, 3) := by decide +kernel
theorem dX6_layOn_17 : decode cX6_layOn 17 = .ok (.aload_n 2, 1) := by decide +kernel
theorem dX6_layOn_18 : decode cX6_layOn 18 = .ok (.getfield 177, 3) := by decide +kernel
theorem dX6_layOn_21 : decode cX6_layOn 21 = .ok (.invokevirtual 264, 3) := by decide +kernel
theorem dX6_layOn_24 : decode cX6_layOn 24 = .ok (.aload_n 1, 1) := by decide +kernel
theorem dX6_layOn_25 : decode cX6_layOn 25 = .ok (.invokevirtual 152, 3) := by decide +kernel
theorem dX6_layOn_28 : decode cX6_layOn 28 = .ok (.isub, 1) := by decide +kernel
theorem dX6_layOn_29 : decode cX6_layOn 29 = .ok (.istore 4, 2) := by decide +kernel
theorem dX6_layOn_31 : decode cX6_layOn 31 = .ok (.iconst 0, 1) := by decide +kernel
theorem dX6_layOn_32 : decode cX6_layOn 32 = .ok (.istore 5, 2) := by decide +kernel
theorem dX6_layOn_34 : decode cX6_layOn 34 = .ok (.iload 5, 2) := by decide +kernel
theorem dX6_layOn_36 : decode cX6_layOn 36 = .ok (.aload_n 2, 1) := by decide +kernel
theorem dX6_layOn_37 : decode cX6_layOn 37 = .ok (.getfield 177, 3) := by decide +kernel
theorem dX6_layOn_40 : decode cX6_layOn 40 = .ok (.if_icmp .ge 69, 3) := by decide +kernel
theorem dX6_layOn_43 : decode cX6_layOn 43 = .ok (.aload_n 2, 1) := by decide +kernel
theorem dX6_layOn_44 : decode cX6_layOn 44 = .ok (.getfield 366, 3) := by decide +kernel
theorem dX6_layOn_47 : decode cX6_layOn 47 = .ok (.aload_n 2, 1) := by decide +kernel
theorem dX6_layOn_48 : decode cX6_layOn 48 = .ok (.getfield 370, 3) := by decide +kernel
theorem dX6_layOn_51 : decode cX6_layOn 51 = .ok (.iload 5, 2) := by decide +kernel
theorem dX6_layOn_53 : decode cX6_layOn 53 = .ok (.iadd, 1) := by decide +kernel
theorem dX6_layOn_54 : decode cX6_layOn 54 = .ok (.invokevirtual 92, 3) := by decide +kernel
theorem dX6_layOn_57 : decode cX6_layOn 57 = .ok (.iload_n 3, 1) := by decide +kernel
theorem dX6_layOn_58 : decode cX6_layOn 58 = .ok (.isub, 1) := by decide +kernel
theorem dX6_layOn_59 : decode cX6_layOn 59 = .ok (.istore 6, 2) := by decide +kernel
theorem dX6_layOn_61 : decode cX6_layOn 61 = .ok (.iload 6, 2) := by decide +kernel
theorem dX6_layOn_63 : decode cX6_layOn 63 = .ok (.bipush 50, 2) := by decide +kernel
theorem dX6_layOn_65 : decode cX6_layOn 65 = .ok (.if_icmp .lt 38, 3) := by decide +kernel
theorem dX6_layOn_68 : decode cX6_layOn 68 = .ok (.new 296, 3) := by decide +kernel
theorem dX6_layOn_71 : decode cX6_layOn 71 = .ok (.dup, 1) := by decide +kernel
theorem dX6_layOn_72 : decode cX6_layOn 72 = .ok (.iload 6, 2) := by decide +kernel
theorem dX6_layOn_74 : decode cX6_layOn 74 = .ok (.aload_n 1, 1) := by decide +kernel
theorem dX6_layOn_75 : decode cX6_layOn 75 = .ok (.getfield 358, 3) := by decide +kernel
theorem dX6_layOn_78 : decode cX6_layOn 78 = .ok (.invokespecial 373, 3) := by decide +kernel
theorem dX6_layOn_81 : decode cX6_layOn 81 = .ok (.astore 7, 2) := by decide +kernel
theorem dX6_layOn_83 : decode cX6_layOn 83 = .ok (.aload_n 0, 1) := by decide +kernel
theorem dX6_layOn_84 : decode cX6_layOn 84 = .ok (.getfield 25, 3) := by decide +kernel
theorem dX6_layOn_87 : decode cX6_layOn 87 = .ok (.aload 7, 2) := by decide +kernel
theorem dX6_layOn_89 : decode cX6_layOn 89 = .ok (.invokevirtual 59, 3) := by decide +kernel
theorem dX6_layOn_92 : decode cX6_layOn 92 = .ok (.pop, 1) := by decide +kernel
theorem dX6_layOn_93 : decode cX6_layOn 93 = .ok (.iload 4, 2) := by decide +kernel
theorem dX6_layOn_95 : decode cX6_layOn 95 = .ok (.aload 7, 2) := by decide +kernel
theorem dX6_layOn_97 : decode cX6_layOn 97 = .ok (.invokevirtual 314, 3) := by decide +kernel
theorem dX6_layOn_100 : decode cX6_layOn 100 = .ok (.isub, 1) := by decide +kernel
theorem dX6_layOn_101 : decode cX6_layOn 101 = .ok (.istore 4, 2) := by decide +kernel
theorem dX6_layOn_103 : decode cX6_layOn 103 = .ok (.iinc 5 1, 3) := by decide +kernel
theorem dX6_layOn_106 : decode cX6_layOn 106 = .ok (.goto (-72), 3) := by decide +kernel
theorem dX6_layOn_109 : decode cX6_layOn 109 = .ok (.aload_n 0, 1) := by decide +kernel
theorem dX6_layOn_110 : decode cX6_layOn 110 = .ok (.dup, 1) := by decide +kernel
theorem dX6_layOn_111 : decode cX6_layOn 111 = .ok (.getfield 270, 3) := by decide +kernel
theorem dX6_layOn_114 : decode cX6_layOn 114 = .ok (.iload 4, 2) := by decide +kernel
theorem dX6_layOn_116 : decode cX6_layOn 116 = .ok (.iadd, 1) := by decide +kernel
theorem dX6_layOn_117 : decode cX6_layOn 117 = .ok (.putfield 270, 3) := by decide +kernel
theorem dX6_layOn_120 : decode cX6_layOn 120 = .ok (.iload 4, 2) := by decide +kernel
theorem dX6_layOn_122 : decode cX6_layOn 122 = .ok (.ireturn, 1) := by decide +kernel
theorem dX6_offcutArea_0 : decode cX6_offcutArea 0 = .ok (.iconst 0, 1) := by decide +kernel
theorem dX6_offcutArea_1 : decode cX6_offcutArea 1 = .ok (.istore_n 1, 1) := by decide +kernel
theorem dX6_offcutArea_2 : decode cX6_offcutArea 2 = .ok (.iconst 0, 1) := by decide +kernel
theorem dX6_offcutArea_3 : decode cX6_offcutArea 3 = .ok (.istore_n 2, 1) := by decide +kernel
theorem dX6_offcutArea_4 : decode cX6_offcutArea 4 = .ok (.iload_n 2, 1) := by decide +kernel
theorem dX6_offcutArea_5 : decode cX6_offcutArea 5 = .ok (.aload_n 0, 1) := by decide +kernel
theorem dX6_offcutArea_6 : decode cX6_offcutArea 6 = .ok (.getfield 25, 3) := by decide +kernel
theorem dX6_offcutArea_9 : decode cX6_offcutArea 9 = .ok (.invokevirtual 47, 3) := by decide +kernel
theorem dX6_offcutArea_12 : decode cX6_offcutArea 12 = .ok (.if_icmp .ge 26, 3) := by decide +kernel
theorem dX6_offcutArea_15 : decode cX6_offcutArea 15 = .ok (.iload_n 1, 1) := by decide +kernel
theorem dX6_offcutArea_16 : decode cX6_offcutArea 16 = .ok (.aload_n 0, 1) := by decide +kernel
theorem dX6_offcutArea_17 : decode cX6_offcutArea 17 = .ok (.getfield 25, 3) := by decide +kernel
theorem dX6_offcutArea_20 : decode cX6_offcutArea 20 = .ok (.iload_n 2, 1) := by decide +kernel
theorem dX6_offcutArea_21 : decode cX6_offcutArea 21 = .ok (.invokevirtual 216, 3) := by decide +kernel
theorem dX6_offcutArea_24 : decode cX6_offcutArea 24 = .ok (.checkcast 296, 3) := by decide +kernel
theorem dX6_offcutArea_27 : decode cX6_offcutArea 27 = .ok (.invokevirtual 314, 3) := by decide +kernel
theorem dX6_offcutArea_30 : decode cX6_offcutArea 30 = .ok (.iadd, 1) := by decide +kernel
theorem dX6_offcutArea_31 : decode cX6_offcutArea 31 = .ok (.istore_n 1, 1) := by decide +kernel
theorem dX6_offcutArea_32 : decode cX6_offcutArea 32 = .ok (.iinc 2 1, 3) := by decide +kernel
theorem dX6_offcutArea_35 : decode cX6_offcutArea 35 = .ok (.goto (-31), 3) := by decide +kernel
theorem dX6_offcutArea_38 : decode cX6_offcutArea 38 = .ok (.iload_n 1, 1) := by decide +kernel
theorem dX6_offcutArea_39 : decode cX6_offcutArea 39 = .ok (.ireturn, 1) := by decide +kernel
theorem dX6_unusedArea_0 : decode cX6_unusedArea 0 = .ok (.iconst 0, 1) := by decide +kernel
theorem dX6_unusedArea_1 : decode cX6_unusedArea 1 = .ok (.istore_n 1, 1) := by decide +kernel
theorem dX6_unusedArea_2 : decode cX6_unusedArea 2 = .ok (.iconst 0, 1) := by decide +kernel
theorem dX6_unusedArea_3 : decode cX6_unusedArea 3 = .ok (.istore_n 2, 1) := by decide +kernel
theorem dX6_unusedArea_4 : decode cX6_unusedArea 4 = .ok (.iload_n 2, 1) := by decide +kernel
theorem dX6_unusedArea_5 : decode cX6_unusedArea 5 = .ok (.aload_n 0, 1) := by decide +kernel
theorem dX6_unusedArea_6 : decode cX6_unusedArea 6 = .ok (.getfield 16, 3) := by decide +kernel
theorem dX6_unusedArea_9 : decode cX6_unusedArea 9 = .ok (.invokevirtual 47, 3) := by decide +kernel
theorem dX6_unusedArea_12 : decode cX6_unusedArea 12 = .ok (.if_icmp .ge 61, 3) := by decide +kernel
theorem dX6_unusedArea_15 : decode cX6_unusedArea 15 = .ok (.aload_n 0, 1) := by decide +kernel
theorem dX6_unusedArea_16 : decode cX6_unusedArea 16 = .ok (.getfield 16, 3) := by decide +kernel
theorem dX6_unusedArea_19 : decode cX6_unusedArea 19 = .ok (.iload_n 2, 1) := by decide +kernel
theorem dX6_unusedArea_20 : decode cX6_unusedArea 20 = .ok (.invokevirtual 216, 3) := by decide +kernel
theorem dX6_unusedArea_23 : decode cX6_unusedArea 23 = .ok (.checkcast 76, 3) := by decide +kernel
theorem dX6_unusedArea_26 : decode cX6_unusedArea 26 = .ok (.astore_n 3, 1) := by decide +kernel
theorem dX6_unusedArea_27 : decode cX6_unusedArea 27 = .ok (.iconst 0, 1) := by decide +kernel
theorem dX6_unusedArea_28 : decode cX6_unusedArea 28 = .ok (.istore 4, 2) := by decide +kernel
theorem dX6_unusedArea_30 : decode cX6_unusedArea 30 = .ok (.iload 4, 2) := by decide +kernel
theorem dX6_unusedArea_32 : decode cX6_unusedArea 32 = .ok (.aload_n 3, 1) := by decide +kernel
theorem dX6_unusedArea_33 : decode cX6_unusedArea 33 = .ok (.getfield 85, 3) := by decide +kernel
theorem dX6_unusedArea_36 : decode cX6_unusedArea 36 = .ok (.if_icmp .ge 31, 3) := by decide +kernel
theorem dX6_unusedArea_39 : decode cX6_unusedArea 39 = .ok (.iload_n 1, 1) := by decide +kernel
theorem dX6_unusedArea_40 : decode cX6_unusedArea 40 = .ok (.aload_n 3, 1) := by decide +kernel
theorem dX6_unusedArea_41 : decode cX6_unusedArea 41 = .ok (.iload 4, 2) := by decide +kernel
theorem dX6_unusedArea_43 : decode cX6_unusedArea 43 = .ok (.invokevirtual 102, 3) := by decide +kernel
theorem dX6_unusedArea_46 : decode cX6_unusedArea 46 = .ok (.ifCond .eq 7, 3) := by decide +kernel
theorem dX6_unusedArea_49 : decode cX6_unusedArea 49 = .ok (.iconst 0, 1) := by decide +kernel
theorem dX6_unusedArea_50 : decode cX6_unusedArea 50 = .ok (.goto 9, 3) := by decide +kernel
theorem dX6_unusedArea_53 : decode cX6_unusedArea 53 = .ok (.aload_n 3, 1) := by decide +kernel
theorem dX6_unusedArea_54 : decode cX6_unusedArea 54 = .ok (.iload 4, 2) := by decide +kernel
theorem dX6_unusedArea_56 : decode cX6_unusedArea 56 = .ok (.invokevirtual 96, 3) := by decide +kernel
theorem dX6_unusedArea_59 : decode cX6_unusedArea 59 = .ok (.iadd, 1) := by decide +kernel
theorem dX6_unusedArea_60 : decode cX6_unusedArea 60 = .ok (.istore_n 1, 1) := by decide +kernel
theorem dX6_unusedArea_61 : decode cX6_unusedArea 61 = .ok (.iinc 4 1, 3) := by decide +kernel
theorem dX6_unusedArea_64 : decode cX6_unusedArea 64 = .ok (.goto (-34), 3) := by decide +kernel
theorem dX6_unusedArea_67 : decode cX6_unusedArea 67 = .ok (.iinc 2 1, 3) := by decide +kernel
theorem dX6_unusedArea_70 : decode cX6_unusedArea 70 = .ok (.goto (-66), 3) := by decide +kernel
theorem dX6_unusedArea_73 : decode cX6_unusedArea 73 = .ok (.iload_n 1, 1) := by decide +kernel
theorem dX6_unusedArea_74 : decode cX6_unusedArea 74 = .ok (.ireturn, 1) := by decide +kernel
theorem dX6_areasAgree_0 : decode cX6_areasAgree 0 = .ok (.iconst 0, 1) := by decide +kernel
theorem dX6_areasAgree_1 : decode cX6_areasAgree 1 = .ok (.istore_n 1, 1) := by decide +kernel
theorem dX6_areasAgree_2 : decode cX6_areasAgree 2 = .ok (.iconst 0, 1) := by decide +kernel
theorem dX6_areasAgree_3 : decode cX6_areasAgree 3 = .ok (.istore_n 2, 1) := by decide +kernel
theorem dX6_areasAgree_4 : decode cX6_areasAgree 4 = .ok (.iload_n 2, 1) := by decide +kernel
theorem dX6_areasAgree_5 : decode cX6_areasAgree 5 = .ok (.aload_n 0, 1) := by decide +kernel
theorem dX6_areasAgree_6 : decode cX6_areasAgree 6 = .ok (.getfield 16, 3) := by decide +kernel
theorem dX6_areasAgree_9 : decode cX6_areasAgree 9 = .ok (.invokevirtual 47, 3) := by decide +kernel
theorem dX6_areasAgree_12 : decode cX6_areasAgree 12 = .ok (.if_icmp .ge 48, 3) := by decide +kernel
theorem dX6_areasAgree_15 : decode cX6_areasAgree 15 = .ok (.aload_n 0, 1) := by decide +kernel
theorem dX6_areasAgree_16 : decode cX6_areasAgree 16 = .ok (.getfield 16, 3) := by decide +kernel
theorem dX6_areasAgree_19 : decode cX6_areasAgree 19 = .ok (.iload_n 2, 1) := by decide +kernel
theorem dX6_areasAgree_20 : decode cX6_areasAgree 20 = .ok (.invokevirtual 216, 3) := by decide +kernel
theorem dX6_areasAgree_23 : decode cX6_areasAgree 23 = .ok (.checkcast 76, 3) := by decide +kernel
theorem dX6_areasAgree_26 : decode cX6_areasAgree 26 = .ok (.astore_n 3, 1) := by decide +kernel
theorem dX6_areasAgree_27 : decode cX6_areasAgree 27 = .ok (.iconst 0, 1) := by decide +kernel
theorem dX6_areasAgree_28 : decode cX6_areasAgree 28 = .ok (.istore 4, 2) := by decide +kernel
theorem dX6_areasAgree_30 : decode cX6_areasAgree 30 = .ok (.iload 4, 2) := by decide +kernel
theorem dX6_areasAgree_32 : decode cX6_areasAgree 32 = .ok (.aload_n 3, 1) := by decide +kernel
theorem dX6_areasAgree_33 : decode cX6_areasAgree 33 = .ok (.getfield 85, 3) := by decide +kernel
theorem dX6_areasAgree_36 : decode cX6_areasAgree 36 = .ok (.if_icmp .ge 18, 3) := by decide +kernel
theorem dX6_areasAgree_39 : decode cX6_areasAgree 39 = .ok (.iload_n 1, 1) := by decide +kernel
theorem dX6_areasAgree_40 : decode cX6_areasAgree 40 = .ok (.aload_n 3, 1) := by decide +kernel
theorem dX6_areasAgree_41 : decode cX6_areasAgree 41 = .ok (.iload 4, 2) := by decide +kernel
theorem dX6_areasAgree_43 : decode cX6_areasAgree 43 = .ok (.invokevirtual 96, 3) := by decide +kernel
theorem dX6_areasAgree_46 : decode cX6_areasAgree 46 = .ok (.iadd, 1) := by decide +kernel
theorem dX6_areasAgree_47 : decode cX6_areasAgree 47 = .ok (.istore_n 1, 1) := by decide +kernel
theorem dX6_areasAgree_48 : decode cX6_areasAgree 48 = .ok (.iinc 4 1, 3) := by decide +kernel
theorem dX6_areasAgree_51 : decode cX6_areasAgree 51 = .ok (.goto (-21), 3) := by decide +kernel
theorem dX6_areasAgree_54 : decode cX6_areasAgree 54 = .ok (.iinc 2 1, 3) := by decide +kernel
theorem dX6_areasAgree_57 : decode cX6_areasAgree 57 = .ok (.goto (-53), 3) := by decide +kernel
theorem dX6_areasAgree_60 : decode cX6_areasAgree 60 = .ok (.aload_n 0, 1) := by decide +kernel
theorem dX6_areasAgree_61 : decode cX6_areasAgree 61 = .ok (.getfield 149, 3) := by decide +kernel
theorem dX6_areasAgree_64 : decode cX6_areasAgree 64 = .ok (.aload_n 0, 1) := by decide +kernel
theorem dX6_areasAgree_65 : decode cX6_areasAgree 65 = .ok (.getfield 165, 3) := by decide +kernel
theorem dX6_areasAgree_68 : decode cX6_areasAgree 68 = .ok (.iadd, 1) := by decide +kernel
theorem dX6_areasAgree_69 : decode cX6_areasAgree 69 = .ok (.aload_n 0, 1) := by decide +kernel
theorem dX6_areasAgree_70 : decode cX6_areasAgree 70 = .ok (.getfield 267, 3) := by decide +kernel
theorem dX6_areasAgree_73 : decode cX6_areasAgree 73 = .ok (.iadd, 1) := by decide +kernel
theorem dX6_areasAgree_74 : decode cX6_areasAgree 74 = .ok (.istore_n 2, 1) := by decide +kernel
theorem dX6_areasAgree_75 : decode cX6_areasAgree 75 = .ok (.iload_n 1, 1) := by decide +kernel
theorem dX6_areasAgree_76 : decode cX6_areasAgree 76 = .ok (.iload_n 2, 1) := by decide +kernel
theorem dX6_areasAgree_77 : decode cX6_areasAgree 77 = .ok (.aload_n 0, 1) := by decide +kernel
theorem dX6_areasAgree_78 : decode cX6_areasAgree 78 = .ok (.invokevirtual 315, 3) := by decide +kernel
theorem dX6_areasAgree_81 : decode cX6_areasAgree 81 = .ok (.iadd, 1) := by decide +kernel
theorem dX6_areasAgree_82 : decode cX6_areasAgree 82 = .ok (.aload_n 0, 1) := by decide +kernel
theorem dX6_areasAgree_83 : decode cX6_areasAgree 83 = .ok (.getfield 311, 3) := by decide +kernel
theorem dX6_areasAgree_86 : decode cX6_areasAgree 86 = .ok (.iadd, 1) := by decide +kernel
theorem dX6_areasAgree_87 : decode cX6_areasAgree 87 = .ok (.aload_n 0, 1) := by decide +kernel
theorem dX6_areasAgree_88 : decode cX6_areasAgree 88 = .ok (.getfield 270, 3) := by decide +kernel
theorem dX6_areasAgree_91 : decode cX6_areasAgree 91 = .ok (.iadd, 1) := by decide +kernel
theorem dX6_areasAgree_92 : decode cX6_areasAgree 92 = .ok (.aload_n 0, 1) := by decide +kernel
theorem dX6_areasAgree_93 : decode cX6_areasAgree 93 = .ok (.invokevirtual 318, 3) := by decide +kernel
theorem dX6_areasAgree_96 : decode cX6_areasAgree 96 = .ok (.iadd, 1) := by decide +kernel
theorem dX6_areasAgree_97 : decode cX6_areasAgree 97 = .ok (.if_icmp .ne 7, 3) := by decide +kernel
theorem dX6_areasAgree_100 : decode cX6_areasAgree 100 = .ok (.iconst 1, 1) := by decide +kernel
theorem dX6_areasAgree_101 : decode cX6_areasAgree 101 = .ok (.goto 4, 3) := by decide +kernel
theorem dX6_areasAgree_104 : decode cX6_areasAgree 104 = .ok (.iconst 0, 1) := by decide +kernel
theorem dX6_areasAgree_105 : decode cX6_areasAgree 105 = .ok (.ireturn, 1) := by decide +kernel
theorem dX6_usesAgree_0 : decode cX6_usesAgree 0 = .ok (.iconst 0, 1) := by decide +kernel
theorem dX6_usesAgree_1 : decode cX6_usesAgree 1 = .ok (.istore_n 1, 1) := by decide +kernel
theorem dX6_usesAgree_2 : decode cX6_usesAgree 2 = .ok (.iload_n 1, 1) := by decide +kernel
theorem dX6_usesAgree_3 : decode cX6_usesAgree 3 = .ok (.aload_n 0, 1) := by decide +kernel
theorem dX6_usesAgree_4 : decode cX6_usesAgree 4 = .ok (.getfield 16, 3) := by decide +kernel
theorem dX6_usesAgree_7 : decode cX6_usesAgree 7 = .ok (.invokevirtual 47, 3) := by decide +kernel
theorem dX6_usesAgree_10 : decode cX6_usesAgree 10 = .ok (.if_icmp .ge 61, 3) := by decide +kernel
theorem dX6_usesAgree_13 : decode cX6_usesAgree 13 = .ok (.aload_n 0, 1) := by decide +kernel
theorem dX6_usesAgree_14 : decode cX6_usesAgree 14 = .ok (.getfield 16, 3) := by decide +kernel
theorem dX6_usesAgree_17 : decode cX6_usesAgree 17 = .ok (.iload_n 1, 1) := by decide +kernel
theorem dX6_usesAgree_18 : decode cX6_usesAgree 18 = .ok (.invokevirtual 216, 3) := by decide +kernel
theorem dX6_usesAgree_21 : decode cX6_usesAgree 21 = .ok (.checkcast 76, 3) := by decide +kernel
theorem dX6_usesAgree_24 : decode cX6_usesAgree 24 = .ok (.astore_n 2, 1) := by decide +kernel
theorem dX6_usesAgree_25 : decode cX6_usesAgree 25 = .ok (.iconst 0, 1) := by decide +kernel
theorem dX6_usesAgree_26 : decode cX6_usesAgree 26 = .ok (.istore_n 3, 1) := by decide +kernel
theorem dX6_usesAgree_27 : decode cX6_usesAgree 27 = .ok (.iload_n 3, 1) := by decide +kernel
theorem dX6_usesAgree_28 : decode cX6_usesAgree 28 = .ok (.aload_n 2, 1) := by decide +kernel
theorem dX6_usesAgree_29 : decode cX6_usesAgree 29 = .ok (.getfield 85, 3) := by decide +kernel
theorem dX6_usesAgree_32 : decode cX6_usesAgree 32 = .ok (.if_icmp .ge 33, 3) := by decide +kernel
theorem dX6_usesAgree_35 : decode cX6_usesAgree 35 = .ok (.aload_n 0, 1) := by decide +kernel
theorem dX6_usesAgree_36 : decode cX6_usesAgree 36 = .ok (.aload_n 2, 1) := by decide +kernel
theorem dX6_usesAgree_37 : decode cX6_usesAgree 37 = .ok (.iload_n 3, 1) := by decide +kernel
theorem dX6_usesAgree_38 : decode cX6_usesAgree 38 = .ok (.invokevirtual 376, 3) := by decide +kernel
theorem dX6_usesAgree_41 : decode cX6_usesAgree 41 = .ok (.aload_n 2, 1) := by decide +kernel
theorem dX6_usesAgree_42 : decode cX6_usesAgree 42 = .ok (.iload_n 3, 1) := by decide +kernel
theorem dX6_usesAgree_43 : decode cX6_usesAgree 43 = .ok (.invokevirtual 102, 3) := by decide +kernel
theorem dX6_usesAgree_46 : decode cX6_usesAgree 46 = .ok (.ifCond .eq 7, 3) := by decide +kernel
theorem dX6_usesAgree_49 : decode cX6_usesAgree 49 = .ok (.iconst 1, 1) := by decide +kernel
theorem dX6_usesAgree_50 : decode cX6_usesAgree 50 = .ok (.goto 4, 3) := by decide +kernel
theorem dX6_usesAgree_53 : decode cX6_usesAgree 53 = .ok (.iconst 0, 1) := by decide +kernel
theorem dX6_usesAgree_54 : decode cX6_usesAgree 54 = .ok (.if_icmp .eq 5, 3) := by decide +kernel
theorem dX6_usesAgree_57 : decode cX6_usesAgree 57 = .ok (.iconst 0, 1) := by decide +kernel
theorem dX6_usesAgree_58 : decode cX6_usesAgree 58 = .ok (.ireturn, 1) := by decide +kernel
theorem dX6_usesAgree_59 : decode cX6_usesAgree 59 = .ok (.iinc 3 1, 3) := by decide +kernel
theorem dX6_usesAgree_62 : decode cX6_usesAgree 62 = .ok (.goto (-35), 3) := by decide +kernel
theorem dX6_usesAgree_65 : decode cX6_usesAgree 65 = .ok (.iinc 1 1, 3) := by decide +kernel
theorem dX6_usesAgree_68 : decode cX6_usesAgree 68 = .ok (.goto (-66), 3) := by decide +kernel
theorem dX6_usesAgree_71 : decode cX6_usesAgree 71 = .ok (.iconst 1, 1) := by decide +kernel
theorem dX6_usesAgree_72 : decode cX6_usesAgree 72 = .ok (.ireturn, 1) := by decide +kernel
theorem dX6_countUses_0 : decode cX6_countUses 0 = .ok (.iconst 0, 1) := by decide +kernel
theorem dX6_countUses_1 : decode cX6_countUses 1 = .ok (.istore_n 3, 1) := by decide +kernel
theorem dX6_countUses_2 : decode cX6_countUses 2 = .ok (.iconst 0, 1) := by decide +kernel
theorem dX6_countUses_3 : decode cX6_countUses 3 = .ok (.istore 4, 2) := by decide +kernel
theorem dX6_countUses_5 : decode cX6_countUses 5 = .ok (.iload 4, 2) := by decide +kernel
theorem dX6_countUses_7 : decode cX6_countUses 7 = .ok (.aload_n 0, 1) := by decide +kernel
theorem dX6_countUses_8 : decode cX6_countUses 8 = .ok (.getfield 19, 3) := by decide +kernel
theorem dX6_countUses_11 : decode cX6_countUses 11 = .ok (.invokevirtual 47, 3) := by decide +kernel
theorem dX6_countUses_14 : decode cX6_countUses 14 = .ok (.if_icmp .ge 47, 3) := by decide +kernel
theorem dX6_countUses_17 : decode cX6_countUses 17 = .ok (.aload_n 0, 1) := by decide +kernel
theorem dX6_countUses_18 : decode cX6_countUses 18 = .ok (.getfield 19, 3) := by decide +kernel
theorem dX6_countUses_21 : decode cX6_countUses 21 = .ok (.iload 4, 2) := by decide +kernel
theorem dX6_countUses_23 : decode cX6_countUses 23 = .ok (.invokevirtual 216, 3) := by decide +kernel
theorem dX6_countUses_26 : decode cX6_countUses 26 = .ok (.checkcast 108, 3) := by decide +kernel
theorem dX6_countUses_29 : decode cX6_countUses 29 = .ok (.astore 5, 2) := by decide +kernel
theorem dX6_countUses_31 : decode cX6_countUses 31 = .ok (.iload_n 3, 1) := by decide +kernel
theorem dX6_countUses_32 : decode cX6_countUses 32 = .ok (.aload 5, 2) := by decide +kernel
theorem dX6_countUses_34 : decode cX6_countUses 34 = .ok (.getfield 123, 3) := by decide +kernel
theorem dX6_countUses_37 : decode cX6_countUses 37 = .ok (.aload_n 1, 1) := by decide +kernel
theorem dX6_countUses_38 : decode cX6_countUses 38 = .ok (.iload_n 2, 1) := by decide +kernel
theorem dX6_countUses_39 : decode cX6_countUses 39 = .ok (.invokestatic 380, 3) := by decide +kernel
theorem dX6_countUses_42 : decode cX6_countUses 42 = .ok (.aload 5, 2) := by decide +kernel
theorem dX6_countUses_44 : decode cX6_countUses 44 = .ok (.getfield 159, 3) := by decide +kernel
theorem dX6_countUses_47 : decode cX6_countUses 47 = .ok (.aload_n 1, 1) := by decide +kernel
theorem dX6_countUses_48 : decode cX6_countUses 48 = .ok (.iload_n 2, 1) := by decide +kernel
theorem dX6_countUses_49 : decode cX6_countUses 49 = .ok (.invokestatic 380, 3) := by decide +kernel
theorem dX6_countUses_52 : decode cX6_countUses 52 = .ok (.iadd, 1) := by decide +kernel
theorem dX6_countUses_53 : decode cX6_countUses 53 = .ok (.iadd, 1) := by decide +kernel
theorem dX6_countUses_54 : decode cX6_countUses 54 = .ok (.istore_n 3, 1) := by decide +kernel
theorem dX6_countUses_55 : decode cX6_countUses 55 = .ok (.iinc 4 1, 3) := by decide +kernel
theorem dX6_countUses_58 : decode cX6_countUses 58 = .ok (.goto (-53), 3) := by decide +kernel
theorem dX6_countUses_61 : decode cX6_countUses 61 = .ok (.iconst 0, 1) := by decide +kernel
theorem dX6_countUses_62 : decode cX6_countUses 62 = .ok (.istore 4, 2) := by decide +kernel
theorem dX6_countUses_64 : decode cX6_countUses 64 = .ok (.iload 4, 2) := by decide +kernel
theorem dX6_countUses_66 : decode cX6_countUses 66 = .ok (.aload_n 0, 1) := by decide +kernel
theorem dX6_countUses_67 : decode cX6_countUses 67 = .ok (.getfield 22, 3) := by decide +kernel
theorem dX6_countUses_70 : decode cX6_countUses 70 = .ok (.invokevirtual 47, 3) := by decide +kernel
theorem dX6_countUses_73 : decode cX6_countUses 73 = .ok (.if_icmp .ge 32, 3) := by decide +kernel
theorem dX6_countUses_76 : decode cX6_countUses 76 = .ok (.iload_n 3, 1) := by decide +kernel
theorem dX6_countUses_77 : decode cX6_countUses 77 = .ok (.aload_n 0, 1) := by decide +kernel
theorem dX6_countUses_78 : decode cX6_countUses 78 = .ok (.getfield 22, 3) := by decide +kernel
theorem dX6_countUses_81 : decode cX6_countUses 81 = .ok (.iload 4, 2) := by decide +kernel
theorem dX6_countUses_83 : decode cX6_countUses 83 = .ok (.invokevirtual 216, 3) := by decide +kernel
theorem dX6_countUses_86 : decode cX6_countUses 86 = .ok (.checkcast 226, 3) := by decide +kernel
theorem dX6_countUses_89 : decode cX6_countUses 89 = .ok (.getfield 241, 3) := by decide +kernel
theorem dX6_countUses_92 : decode cX6_countUses 92 = .ok (.aload_n 1, 1) := by decide +kernel
theorem dX6_countUses_93 : decode cX6_countUses 93 = .ok (.iload_n 2, 1) := by decide +kernel
theorem dX6_countUses_94 : decode cX6_countUses 94 = .ok (.invokestatic 380, 3) := by decide +kernel
theorem dX6_countUses_97 : decode cX6_countUses 97 = .ok (.iadd, 1) := by decide +kernel
theorem dX6_countUses_98 : decode cX6_countUses 98 = .ok (.istore_n 3, 1) := by decide +kernel
theorem dX6_countUses_99 : decode cX6_countUses 99 = .ok (.iinc 4 1, 3) := by decide +kernel
theorem dX6_countUses_102 : decode cX6_countUses 102 = .ok (.goto (-38), 3) := by decide +kernel
theorem dX6_countUses_105 : decode cX6_countUses 105 = .ok (.iload_n 3, 1) := by decide +kernel
theorem dX6_countUses_106 : decode cX6_countUses 106 = .ok (.ireturn, 1) := by decide +kernel
theorem dX6_usesIn_0 : decode cX6_usesIn 0 = .ok (.aload_n 0, 1) := by decide +kernel
theorem dX6_usesIn_1 : decode cX6_usesIn 1 = .ok (.ifnull 16, 3) := by decide +kernel
theorem dX6_usesIn_4 : decode cX6_usesIn 4 = .ok (.aload_n 0, 1) := by decide +kernel
theorem dX6_usesIn_5 : decode cX6_usesIn 5 = .ok (.aload_n 1, 1) := by decide +kernel
theorem dX6_usesIn_6 : decode cX6_usesIn 6 = .ok (.iload_n 2, 1) := by decide +kernel
theorem dX6_usesIn_7 : decode cX6_usesIn 7 = .ok (.invokevirtual 384, 3) := by decide +kernel
theorem dX6_usesIn_10 : decode cX6_usesIn 10 = .ok (.ifCond .eq 7, 3) := by decide +kernel
theorem dX6_usesIn_13 : decode cX6_usesIn 13 = .ok (.iconst 1, 1) := by decide +kernel
theorem dX6_usesIn_14 : decode cX6_usesIn 14 = .ok (.goto 4, 3) := by decide +kernel
theorem dX6_usesIn_17 : decode cX6_usesIn 17 = .ok (.iconst 0, 1) := by decide +kernel
theorem dX6_usesIn_18 : decode cX6_usesIn 18 = .ok (.ireturn, 1) := by decide +kernel
theorem dX6_placesAgree_0 : decode cX6_placesAgree 0 = .ok (.iconst 0, 1) := by decide +kernel
theorem dX6_placesAgree_1 : decode cX6_placesAgree 1 = .ok (.istore_n 1, 1) := by decide +kernel
theorem dX6_placesAgree_2 : decode cX6_placesAgree 2 = .ok (.iload_n 1, 1) := by decide +kernel
theorem dX6_placesAgree_3 : decode cX6_placesAgree 3 = .ok (.aload_n 0, 1) := by decide +kernel
theorem dX6_placesAgree_4 : decode cX6_placesAgree 4 = .ok (.getfield 22, 3) := by decide +kernel
theorem dX6_placesAgree_7 : decode cX6_placesAgree 7 = .ok (.invokevirtual 47, 3) := by decide +kernel
theorem dX6_placesAgree_10 : decode cX6_placesAgree 10 = .ok (.if_icmp .ge 30, 3) := by decide +kernel
theorem dX6_placesAgree_13 : decode cX6_placesAgree 13 = .ok (.aload_n 0, 1) := by decide +kernel
theorem dX6_placesAgree_14 : decode cX6_placesAgree 14 = .ok (.getfield 22, 3) := by decide +kernel
theorem dX6_placesAgree_17 : decode cX6_placesAgree 17 = .ok (.iload_n 1, 1) := by decide +kernel
theorem dX6_placesAgree_18 : decode cX6_placesAgree 18 = .ok (.invokevirtual 216, 3) := by decide +kernel
theorem dX6_placesAgree_21 : decode cX6_placesAgree 21 = .ok (.checkcast 226, 3) := by decide +kernel
theorem dX6_placesAgree_24 : decode cX6_placesAgree 24 = .ok (.getfield 388, 3) := by decide +kernel
theorem dX6_placesAgree_27 : decode cX6_placesAgree 27 = .ok (.bipush 64, 2) := by decide +kernel
theorem dX6_placesAgree_29 : decode cX6_placesAgree 29 = .ok (.if_icmp .eq 5, 3) := by decide +kernel
theorem dX6_placesAgree_32 : decode cX6_placesAgree 32 = .ok (.iconst 0, 1) := by decide +kernel
theorem dX6_placesAgree_33 : decode cX6_placesAgree 33 = .ok (.ireturn, 1) := by decide +kernel
theorem dX6_placesAgree_34 : decode cX6_placesAgree 34 = .ok (.iinc 1 1, 3) := by decide +kernel
theorem dX6_placesAgree_37 : decode cX6_placesAgree 37 = .ok (.goto (-35), 3) := by decide +kernel
theorem dX6_placesAgree_40 : decode cX6_placesAgree 40 = .ok (.iconst 1, 1) := by decide +kernel
theorem dX6_placesAgree_41 : decode cX6_placesAgree 41 = .ok (.ireturn, 1) := by decide +kernel
theorem dX7_init_0 : decode cX7_init 0 = .ok (.aload_n 0, 1) := by decide +kernel
theorem dX7_init_1 : decode cX7_init 1 = .ok (.invokespecial 1, 3) := by decide +kernel
theorem dX7_init_4 : decode cX7_init 4 = .ok (.aload_n 0, 1) := by decide +kernel
theorem dX7_init_5 : decode cX7_init 5 = .ok (.aload_n 1, 1) := by decide +kernel
theorem dX7_init_6 : decode cX7_init 6 = .ok (.putfield 7, 3) := by decide +kernel
theorem dX7_init_9 : decode cX7_init 9 = .ok (.aload_n 0, 1) := by decide +kernel
theorem dX7_init_10 : decode cX7_init 10 = .ok (.iload_n 2, 1) := by decide +kernel
theorem dX7_init_11 : decode cX7_init 11 = .ok (.putfield 13, 3) := by decide +kernel
theorem dX7_init_14 : decode cX7_init 14 = .ok (.aload_n 0, 1) := by decide +kernel
theorem dX7_init_15 : decode cX7_init 15 = .ok (.iload_n 3, 1) := by decide +kernel
theorem dX7_init_16 : decode cX7_init 16 = .ok (.putfield 17, 3) := by decide +kernel
theorem dX7_init_19 : decode cX7_init 19 = .ok (.aload_n 1, 1) := by decide +kernel
theorem dX7_init_20 : decode cX7_init 20 = .ok (.getfield 21, 3) := by decide +kernel
theorem dX7_init_23 : decode cX7_init 23 = .ok (.iconst 2, 1) := by decide +kernel
theorem dX7_init_24 : decode cX7_init 24 = .ok (.idiv, 1) := by decide +kernel
theorem dX7_init_25 : decode cX7_init 25 = .ok (.istore 4, 2) := by decide +kernel
theorem dX7_init_27 : decode cX7_init 27 = .ok (.iload_n 2, 1) := by decide +kernel
theorem dX7_init_28 : decode cX7_init 28 = .ok (.bipush 102, 2) := by decide +kernel
theorem dX7_init_30 : decode cX7_init 30 = .ok (.if_icmp .ne 17, 3) := by decide +kernel
theorem dX7_init_33 : decode cX7_init 33 = .ok (.bipush 10, 2) := by decide +kernel
theorem dX7_init_35 : decode cX7_init 35 = .ok (.iload 4, 2) := by decide +kernel
theorem dX7_init_37 : decode cX7_init 37 = .ok (.iconst 2, 1) := by decide +kernel
theorem dX7_init_38 : decode cX7_init 38 = .ok (.idiv, 1) := by decide +kernel
theorem dX7_init_39 : decode cX7_init 39 = .ok (.imul, 1) := by decide +kernel
theorem dX7_init_40 : decode cX7_init 40 = .ok (.iload_n 3, 1) := by decide +kernel
theorem dX7_init_41 : decode cX7_init 41 = .ok (.idiv, 1) := by decide +kernel
theorem dX7_init_42 : decode cX7_init 42 = .ok (.iconst 1, 1) := by decide +kernel
theorem dX7_init_43 : decode cX7_init 43 = .ok (.iadd, 1) := by decide +kernel
theorem dX7_init_44 : decode cX7_init 44 = .ok (.goto 10, 3) := by decide +kernel
theorem dX7_init_47 : decode cX7_init 47 = .ok (.bipush 10, 2) := by decide +kernel
theorem dX7_init_49 : decode cX7_init 49 = .ok (.iload 4, 2) := by decide +kernel
theorem dX7_init_51 : decode cX7_init 51 = .ok (.imul, 1) := by decide +kernel
theorem dX7_init_52 : decode cX7_init 52 = .ok (.iload_n 3, 1) := by decide +kernel
theorem dX7_init_53 : decode cX7_init 53 = .ok (.idiv, 1) := by decide +kernel
theorem dX7_init_54 : decode cX7_init 54 = .ok (.istore 5, 2) := by decide +kernel
theorem dX7_init_56 : decode cX7_init 56 = .ok (.aload_n 0, 1) := by decide +kernel
theorem dX7_init_57 : decode cX7_init 57 = .ok (.bipush 24, 2) := by decide +kernel
theorem dX7_init_59 : decode cX7_init 59 = .ok (.iload 5, 2) := by decide +kernel
theorem dX7_init_61 : decode cX7_init 61 = .ok (.invokestatic 26, 3) := by decide +kernel
theorem dX7_init_64 : decode cX7_init 64 = .ok (.newarray .boolean, 2) := by decide +kernel
theorem dX7_init_66 : decode cX7_init 66 = .ok (.putfield 32, 3) := by decide +kernel
theorem dX7_init_69 : decode cX7_init 69 = .ok (.return_, 1) := by decide +kernel
theorem dX7_width_0 : decode cX7_width 0 = .ok (.aload_n 0, 1) := by decide +kernel
theorem dX7_width_1 : decode cX7_width 1 = .ok (.getfield 7, 3) := by decide +kernel
theorem dX7_width_4 : decode cX7_width 4 = .ok (.getfield 21, 3) := by decide +kernel
theorem dX7_width_7 : decode cX7_width 7 = .ok (.iconst 2, 1) := by decide +kernel
theorem dX7_width_8 : decode cX7_width 8 = .ok (.idiv, 1) := by decide +kernel
theorem dX7_width_9 : decode cX7_width 9 = .ok (.istore_n 2, 1) := by decide +kernel
theorem dX7_width_10 : decode cX7_width 10 = .ok (.iload_n 1, 1) := by decide +kernel
theorem dX7_width_11 : decode cX7_width 11 = .ok (.aload_n 0, 1) := by decide +kernel
theorem dX7_width_12 : decode cX7_width 12 = .ok (.getfield 17, 3) := by decide +kernel
theorem dX7_width_15 : decode cX7_width 15 = .ok (.imul, 1) := by decide +kernel
theorem dX7_width_16 : decode cX7_width 16 = .ok (.bipush 10, 2) := by decide +kernel
theorem dX7_width_18 : decode cX7_width 18 = .ok (.idiv, 1) := by decide +kernel
theorem dX7_width_19 : decode cX7_width 19 = .ok (.istore_n 3, 1) := by decide +kernel
theorem dX7_width_20 : decode cX7_width 20 = .ok (.aload_n 0, 1) := by decide +kernel
theorem dX7_width_21 : decode cX7_width 21 = .ok (.getfield 13, 3) := by decide +kernel
theorem dX7_width_24 : decode cX7_width 24 = .ok (.bipush 102, 2) := by decide +kernel
theorem dX7_width_26 : decode cX7_width 26 = .ok (.if_icmp .ne 25, 3) := by decide +kernel
theorem dX7_width_29 : decode cX7_width 29 = .ok (.iload_n 2, 1) := by decide +kernel
theorem dX7_width_30 : decode cX7_width 30 = .ok (.iconst 2, 1) := by decide +kernel
theorem dX7_width_31 : decode cX7_width 31 = .ok (.idiv, 1) := by decide +kernel
theorem dX7_width_32 : decode cX7_width 32 = .ok (.iload_n 3, 1) := by decide +kernel
theorem dX7_width_33 : decode cX7_width 33 = .ok (.isub, 1) := by decide +kernel
theorem dX7_width_34 : decode cX7_width 34 = .ok (.istore 4, 2) := by decide +kernel
theorem dX7_width_36 : decode cX7_width 36 = .ok (.iconst 2, 1) := by decide +kernel
theorem dX7_width_37 : decode cX7_width 37 = .ok (.iload_n 2, 1) := by decide +kernel
theorem dX7_width_38 : decode cX7_width 38 = .ok (.iload_n 2, 1) := by decide +kernel
theorem dX7_width_39 : decode cX7_width 39 = .ok (.imul, 1) := by decide +kernel
theorem dX7_width_40 : decode cX7_width 40 = .ok (.iload 4, 2) := by decide +kernel
theorem dX7_width_42 : decode cX7_width 42 = .ok (.iload 4, 2) := by decide +kernel
theorem dX7_width_44 : decode cX7_width 44 = .ok (.imul, 1) := by decide +kernel
theorem dX7_width_45 : decode cX7_width 45 = .ok (.isub, 1) := by decide +kernel
theorem dX7_width_46 : decode cX7_width 46 = .ok (.invokestatic 36, 3) := by decide +kernel
theorem dX7_width_49 : decode cX7_width 49 = .ok (.imul, 1) := by decide +kernel
theorem dX7_width_50 : decode cX7_width 50 = .ok (.ireturn, 1) := by decide +kernel
theorem dX7_width_51 : decode cX7_width 51 = .ok (.aload_n 0, 1) := by decide +kernel
theorem dX7_width_52 : decode cX7_width 52 = .ok (.getfield 13, 3) := by decide +kernel
theorem dX7_width_55 : decode cX7_width 55 = .ok (.bipush 113, 2) := by decide +kernel
theorem dX7_width_57 : decode cX7_width 57 = .ok (.if_icmp .ne 10, 3) := by decide +kernel
theorem dX7_width_60 : decode cX7_width 60 = .ok (.iload_n 2, 1) := by decide +kernel
theorem dX7_width_61 : decode cX7_width 61 = .ok (.bipush 20, 2) := by decide +kernel
theorem dX7_width_63 : decode cX7_width 63 = .ok (.isub, 1) := by decide +kernel
theorem dX7_width_64 : decode cX7_width 64 = .ok (.goto 37, 3) := by decide +kernel
theorem dX7_width_67 : decode cX7_width 67 = .ok (.aload_n 0, 1) := by decide +kernel
theorem dX7_width_68 : decode cX7_width 68 = .ok (.getfield 13, 3) := by decide +kernel
theorem dX7_width_71 : decode cX7_width 71 = .ok (.bipush 114, 2) := by decide +kernel
theorem dX7_width_73 : decode cX7_width 73 = .ok (.if_icmp .ne 14, 3) := by decide +kernel
theorem dX7_width_76 : decode cX7_width 76 = .ok (.iload_n 2, 1) := by decide +kernel
theorem dX7_width_77 : decode cX7_width 77 = .ok (.bipush 20, 2) := by decide +kernel
theorem dX7_width_79 : decode cX7_width 79 = .ok (.isub, 1) := by decide +kernel
theorem dX7_width_80 : decode cX7_width 80 = .ok (.iconst 4, 1) := by decide +kernel
theorem dX7_width_81 : decode cX7_width 81 = .ok (.imul, 1) := by decide +kernel
theorem dX7_width_82 : decode cX7_width 82 = .ok (.iconst 5, 1) := by decide +kernel
theorem dX7_width_83 : decode cX7_width 83 = .ok (.idiv, 1) := by decide +kernel
theorem dX7_width_84 : decode cX7_width 84 = .ok (.goto 17, 3) := by decide +kernel
theorem dX7_width_87 : decode cX7_width 87 = .ok (.iconst 3, 1) := by decide +kernel
theorem dX7_width_88 : decode cX7_width 88 = .ok (.aload_n 0, 1) := by decide +kernel
theorem dX7_width_89 : decode cX7_width 89 = .ok (.getfield 7, 3) := by decide +kernel
theorem dX7_width_92 : decode cX7_width 92 = .ok (.getfield 21, 3) := by decide +kernel
theorem dX7_width_95 : decode cX7_width 95 = .ok (.imul, 1) := by decide +kernel
theorem dX7_width_96 : decode cX7_width 96 = .ok (.bipush 6, 2) := by decide +kernel
theorem dX7_width_98 : decode cX7_width 98 = .ok (.iload_n 3, 1) := by decide +kernel
theorem dX7_width_99 : decode cX7_width 99 = .ok (.imul, 1) := by decide +kernel
theorem dX7_width_100 : decode cX7_width 100 = .ok (.isub, 1) := by decide +kernel
theorem dX7_width_101 : decode cX7_width 101 = .ok (.ireturn, 1) := by decide +kernel
theorem dX7_area_0 : decode cX7_area 0 = .ok (.aload_n 0, 1) := by decide +kernel
theorem dX7_area_1 : decode cX7_area 1 = .ok (.iload_n 1, 1) := by decide +kernel
theorem dX7_area_2 : decode cX7_area 2 = .ok (.invokevirtual 42, 3) := by decide +kernel
theorem dX7_area_5 : decode cX7_area 5 = .ok (.aload_n 0, 1) := by decide +kernel
theorem dX7_area_6 : decode cX7_area 6 = .ok (.getfield 7, 3) := by decide +kernel
theorem dX7_area_9 : decode cX7_area 9 = .ok (.getfield 45, 3) := by decide +kernel
theorem dX7_area_12 : decode cX7_area 12 = .ok (.imul, 1) := by decide +kernel
theorem dX7_area_13 : decode cX7_area 13 = .ok (.ireturn, 1) := by decide +kernel
theorem dX7_figure_0 : decode cX7_figure 0 = .ok (.aload_n 0, 1) := by decide +kernel
theorem dX7_figure_1 : decode cX7_figure 1 = .ok (.getfield 7, 3) := by decide +kernel
theorem dX7_figure_4 : decode cX7_figure 4 = .ok (.getfield 48, 3) := by decide +kernel
theorem dX7_figure_7 : decode cX7_figure 7 = .ok (.bipush 112, 2) := by decide +kernel
theorem dX7_figure_9 : decode cX7_figure 9 = .ok (.if_icmp .ne 8, 3) := by decide +kernel
theorem dX7_figure_12 : decode cX7_figure 12 = .ok (.bipush 10, 2) := by decide +kernel
theorem dX7_figure_14 : decode cX7_figure 14 = .ok (.goto 22, 3) := by decide +kernel
theorem dX7_figure_17 : decode cX7_figure 17 = .ok (.aload_n 0, 1) := by decide +kernel
theorem dX7_figure_18 : decode cX7_figure 18 = .ok (.getfield 7, 3) := by decide +kernel
theorem dX7_figure_21 : decode cX7_figure 21 = .ok (.getfield 48, 3) := by decide +kernel
theorem dX7_figure_24 : decode cX7_figure 24 = .ok (.bipush 99, 2) := by decide +kernel
theorem dX7_figure_26 : decode cX7_figure 26 = .ok (.if_icmp .ne 8, 3) := by decide +kernel
theorem dX7_figure_29 : decode cX7_figure 29 = .ok (.bipush 40, 2) := by decide +kernel
theorem dX7_figure_31 : decode cX7_figure 31 = .ok (.goto 5, 3) := by decide +kernel
theorem dX7_figure_34 : decode cX7_figure 34 = .ok (.bipush 60, 2) := by decide +kernel
theorem dX7_figure_36 : decode cX7_figure 36 = .ok (.istore_n 2, 1) := by decide +kernel
theorem dX7_figure_37 : decode cX7_figure 37 = .ok (.aload_n 0, 1) := by decide +kernel
theorem dX7_figure_38 : decode cX7_figure 38 = .ok (.getfield 13, 3) := by decide +kernel
theorem dX7_figure_41 : decode cX7_figure 41 = .ok (.bipush 102, 2) := by decide +kernel
theorem dX7_figure_43 : decode cX7_figure 43 = .ok (.if_icmp .ne 16, 3) := by decide +kernel
theorem dX7_figure_46 : decode cX7_figure 46 = .ok (.iload_n 2, 1) := by decide +kernel
theorem dX7_figure_47 : decode cX7_figure 47 = .ok (.bipush 15, 2) := by decide +kernel
theorem dX7_figure_49 : decode cX7_figure 49 = .ok (.iload_n 1, 1) := by decide +kernel
theorem dX7_figure_50 : decode cX7_figure 50 = .ok (.bipush 8, 2) := by decide +kernel
theorem dX7_figure_52 : decode cX7_figure 52 = .ok (.irem, 1) := by decide +kernel
theorem dX7_figure_53 : decode cX7_figure 53 = .ok (.isub, 1) := by decide +kernel
theorem dX7_figure_54 : decode cX7_figure 54 = .ok (.iadd, 1) := by decide +kernel
theorem dX7_figure_55 : decode cX7_figure 55 = .ok (.istore_n 2, 1) := by decide +kernel
theorem dX7_figure_56 : decode cX7_figure 56 = .ok (.goto 89, 3) := by decide +kernel
theorem dX7_figure_59 : decode cX7_figure 59 = .ok (.aload_n 0, 1) := by decide +kernel
theorem dX7_figure_60 : decode cX7_figure 60 = .ok (.getfield 13, 3) := by decide +kernel
theorem dX7_figure_63 : decode cX7_figure 63 = .ok (.bipush 113, 2) := by decide +kernel
theorem dX7_figure_65 : decode cX7_figure 65 = .ok (.if_icmp .ne 37, 3) := by decide +kernel
theorem dX7_figure_68 : decode cX7_figure 68 = .ok (.iload_n 2, 1) := by decide +kernel
theorem dX7_figure_69 : decode cX7_figure 69 = .ok (.aload_n 0, 1) := by decide +kernel
theorem dX7_figure_70 : decode cX7_figure 70 = .ok (.getfield 7, 3) := by decide +kernel
theorem dX7_figure_73 : decode cX7_figure 73 = .ok (.getfield 51, 3) := by decide +kernel
theorem dX7_figure_76 : decode cX7_figure 76 = .ok (.iconst 2, 1) := by decide +kernel
theorem dX7_figure_77 : decode cX7_figure 77 = .ok (.if_icmp .ne 8, 3) := by decide +kernel
theorem dX7_figure_80 : decode cX7_figure 80 = .ok (.bipush 30, 2) := by decide +kernel
theorem dX7_figure_82 : decode cX7_figure 82 = .ok (.goto 5, 3) := by decide +kernel
theorem dX7_figure_85 : decode cX7_figure 85 = .ok (.bipush 10, 2) := by decide +kernel
theorem dX7_figure_87 : decode cX7_figure 87 = .ok (.iload_n 1, 1) := by decide +kernel
theorem dX7_figure_88 : decode cX7_figure 88 = .ok (.bipush 12, 2) := by decide +kernel
theorem dX7_figure_90 : decode cX7_figure 90 = .ok (.isub, 1) := by decide +kernel
theorem dX7_figure_91 : decode cX7_figure 91 = .ok (.invokestatic 54, 3) := by decide +kernel
theorem dX7_figure_94 : decode cX7_figure 94 = .ok (.iconst 2, 1) := by decide +kernel
theorem dX7_figure_95 : decode cX7_figure 95 = .ok (.idiv, 1) := by decide +kernel
theorem dX7_figure_96 : decode cX7_figure 96 = .ok (.isub, 1) := by decide +kernel
theorem dX7_figure_97 : decode cX7_figure 97 = .ok (.iadd, 1) := by decide +kernel
theorem dX7_figure_98 : decode cX7_figure 98 = .ok (.istore_n 2, 1) := by decide +kernel
theorem dX7_figure_99 : decode cX7_figure 99 = .ok (.goto 46, 3) := by decide +kernel
theorem dX7_figure_102 : decode cX7_figure 102 = .ok (.aload_n 0, 1) := by decide +kernel
theorem dX7_figure_103 : decode cX7_figure 103 = .ok (.getfield 13, 3) := by decide +kernel
theorem dX7_figure_106 : decode cX7_figure 106 = .ok (.bipush 114, 2) := by decide +kernel
theorem dX7_figure_108 : decode cX7_figure 108 = .ok (.if_icmp .ne 9, 3) := by decide +kernel
theorem dX7_figure_111 : decode cX7_figure 111 = .ok (.iinc 2 5, 3) := by decide +kernel
theorem dX7_figure_114 : decode cX7_figure 114 = .ok (.goto 31, 3) := by decide +kernel
theorem dX7_figure_117 : decode cX7_figure 117 = .ok (.iload_n 2, 1) := by decide +kernel
theorem dX7_figure_118 : decode cX7_figure 118 = .ok (.bipush 20, 2) := by decide +kernel
theorem dX7_figure_120 : decode cX7_figure 120 = .ok (.aload_n 0, 1) := by decide +kernel
theorem dX7_figure_121 : decode cX7_figure 121 = .ok (.getfield 7, 3) := by decide +kernel
theorem dX7_figure_124 : decode cX7_figure 124 = .ok (.getfield 48, 3) := by decide +kernel
theorem dX7_figure_127 : decode cX7_figure 127 = .ok (.bipush 98, 2) := by decide +kernel
theorem dX7_figure_129 : decode cX7_figure 129 = .ok (.if_icmp .ne 8, 3) := by decide +kernel
theorem dX7_figure_132 : decode cX7_figure 132 = .ok (.bipush 30, 2) := by decide +kernel
theorem dX7_figure_134 : decode cX7_figure 134 = .ok (.goto 4, 3) := by decide +kernel
theorem dX7_figure_137 : decode cX7_figure 137 = .ok (.iconst 0, 1) := by decide +kernel
theorem dX7_figure_138 : decode cX7_figure 138 = .ok (.iadd, 1) := by decide +kernel
theorem dX7_figure_139 : decode cX7_figure 139 = .ok (.iload_n 1, 1) := by decide +kernel
theorem dX7_figure_140 : decode cX7_figure 140 = .ok (.iconst 2, 1) := by decide +kernel
theorem dX7_figure_141 : decode cX7_figure 141 = .ok (.idiv, 1) := by decide +kernel
theorem dX7_figure_142 : decode cX7_figure 142 = .ok (.isub, 1) := by decide +kernel
theorem dX7_figure_143 : decode cX7_figure 143 = .ok (.iadd, 1) := by decide +kernel
theorem dX7_figure_144 : decode cX7_figure 144 = .ok (.istore_n 2, 1) := by decide +kernel
theorem dX7_figure_145 : decode cX7_figure 145 = .ok (.iconst 0, 1) := by decide +kernel
theorem dX7_figure_146 : decode cX7_figure 146 = .ok (.bipush 99, 2) := by decide +kernel
theorem dX7_figure_148 : decode cX7_figure 148 = .ok (.iload_n 2, 1) := by decide +kernel
theorem dX7_figure_149 : decode cX7_figure 149 = .ok (.invokestatic 26, 3) := by decide +kernel
theorem dX7_figure_152 : decode cX7_figure 152 = .ok (.invokestatic 57, 3) := by decide +kernel
theorem dX7_figure_155 : decode cX7_figure 155 = .ok (.ireturn, 1) := by decide +kernel
theorem dX8_init_0 : decode cX8_init 0 = .ok (.aload_n 0, 1) := by decide +kernel
theorem dX8_init_1 : decode cX8_init 1 = .ok (.invokespecial 1, 3) := by decide +kernel
theorem dX8_init_4 : decode cX8_init 4 = .ok (.aload_n 0, 1) := by decide +kernel
theorem dX8_init_5 : decode cX8_init 5 = .ok (.aload_n 1, 1) := by decide +kernel
theorem dX8_init_6 : decode cX8_init 6 = .ok (.putfield 7, 3) := by decide +kernel
theorem dX8_init_9 : decode cX8_init 9 = .ok (.aload_n 0, 1) := by decide +kernel
theorem dX8_init_10 : decode cX8_init 10 = .ok (.iload_n 2, 1) := by decide +kernel
theorem dX8_init_11 : decode cX8_init 11 = .ok (.putfield 13, 3) := by decide +kernel
theorem dX8_init_14 : decode cX8_init 14 = .ok (.aload_n 0, 1) := by decide +kernel
theorem dX8_init_15 : decode cX8_init 15 = .ok (.iload_n 3, 1) := by decide +kernel
theorem dX8_init_16 : decode cX8_init 16 = .ok (.putfield 17, 3) := by decide +kernel
theorem dX8_init_19 : decode cX8_init 19 = .ok (.return_, 1) := by decide +kernel
theorem dX8_jump_0 : decode cX8_jump 0 = .ok (.iload_n 1, 1) := by decide +kernel
theorem dX8_jump_1 : decode cX8_jump 1 = .ok (.bipush 98, 2) := by decide +kernel
theorem dX8_jump_3 : decode cX8_jump 3 = .ok (.if_icmp .ne 25, 3) := by decide +kernel
theorem dX8_jump_6 : decode cX8_jump 6 = .ok (.aload_n 0, 1) := by decide +kernel
theorem dX8_jump_7 : decode cX8_jump 7 = .ok (.getfield 17, 3) := by decide +kernel
theorem dX8_jump_10 : decode cX8_jump 10 = .ok (.iconst 2, 1) := by decide +kernel
theorem dX8_jump_11 : decode cX8_jump 11 = .ok (.irem, 1) := by decide +kernel
theorem dX8_jump_12 : decode cX8_jump 12 = .ok (.iconst 1, 1) := by decide +kernel
theorem dX8_jump_13 : decode cX8_jump 13 = .ok (.if_icmp .ne 15, 3) := by decide +kernel
theorem dX8_jump_16 : decode cX8_jump 16 = .ok (.aload_n 0, 1) := by decide +kernel
theorem dX8_jump_17 : decode cX8_jump 17 = .ok (.getfield 17, 3) := by decide +kernel
theorem dX8_jump_20 : decode cX8_jump 20 = .ok (.iconst 1, 1) := by decide +kernel
theorem dX8_jump_21 : decode cX8_jump 21 = .ok (.if_icmp .le 7, 3) := by decide +kernel
theorem dX8_jump_24 : decode cX8_jump 24 = .ok (.iconst 4, 1) := by decide +kernel
theorem dX8_jump_25 : decode cX8_jump 25 = .ok (.goto 4, 3) := by decide +kernel
theorem dX8_jump_28 : decode cX8_jump 28 = .ok (.iconst 0, 1) := by decide +kernel
theorem dX8_jump_29 : decode cX8_jump 29 = .ok (.istore_n 2, 1) := by decide +kernel
theorem dX8_jump_30 : decode cX8_jump 30 = .ok (.iconst 1, 1) := by decide +kernel
theorem dX8_jump_31 : decode cX8_jump 31 = .ok (.istore_n 3, 1) := by decide +kernel
theorem dX8_jump_32 : decode cX8_jump 32 = .ok (.iload_n 3, 1) := by decide +kernel
theorem dX8_jump_33 : decode cX8_jump 33 = .ok (.aload_n 0, 1) := by decide +kernel
theorem dX8_jump_34 : decode cX8_jump 34 = .ok (.getfield 17, 3) := by decide +kernel
theorem dX8_jump_37 : decode cX8_jump 37 = .ok (.if_icmp .ge 66, 3) := by decide +kernel
theorem dX8_jump_40 : decode cX8_jump 40 = .ok (.iload_n 2, 1) := by decide +kernel
theorem dX8_jump_41 : decode cX8_jump 41 = .ok (.aload_n 0, 1) := by decide +kernel
theorem dX8_jump_42 : decode cX8_jump 42 = .ok (.getfield 7, 3) := by decide +kernel
theorem dX8_jump_45 : decode cX8_jump 45 = .ok (.aload_n 0, 1) := by decide +kernel
theorem dX8_jump_46 : decode cX8_jump 46 = .ok (.getfield 13, 3) := by decide +kernel
theorem dX8_jump_49 : decode cX8_jump 49 = .ok (.iload_n 3, 1) := by decide +kernel
theorem dX8_jump_50 : decode cX8_jump 50 = .ok (.iadd, 1) := by decide +kernel
theorem dX8_jump_51 : decode cX8_jump 51 = .ok (.invokevirtual 20, 3) := by decide +kernel
theorem dX8_jump_54 : decode cX8_jump 54 = .ok (.aload_n 0, 1) := by decide +kernel
theorem dX8_jump_55 : decode cX8_jump 55 = .ok (.getfield 7, 3) := by decide +kernel
theorem dX8_jump_58 : decode cX8_jump 58 = .ok (.aload_n 0, 1) := by decide +kernel
theorem dX8_jump_59 : decode cX8_jump 59 = .ok (.getfield 13, 3) := by decide +kernel
theorem dX8_jump_62 : decode cX8_jump 62 = .ok (.iload_n 3, 1) := by decide +kernel
theorem dX8_jump_63 : decode cX8_jump 63 = .ok (.iadd, 1) := by decide +kernel
theorem dX8_jump_64 : decode cX8_jump 64 = .ok (.iconst 1, 1) := by decide +kernel
theorem dX8_jump_65 : decode cX8_jump 65 = .ok (.isub, 1) := by decide +kernel
theorem dX8_jump_66 : decode cX8_jump 66 = .ok (.invokevirtual 20, 3) := by decide +kernel
theorem dX8_jump_69 : decode cX8_jump 69 = .ok (.isub, 1) := by decide +kernel
theorem dX8_jump_70 : decode cX8_jump 70 = .ok (.invokestatic 26, 3) := by decide +kernel
theorem dX8_jump_73 : decode cX8_jump 73 = .ok (.iload_n 1, 1) := by decide +kernel
theorem dX8_jump_74 : decode cX8_jump 74 = .ok (.bipush 115, 2) := by decide +kernel
theorem dX8_jump_76 : decode cX8_jump 76 = .ok (.if_icmp .ne 7, 3) := by decide +kernel
theorem dX8_jump_79 : decode cX8_jump 79 = .ok (.iconst 5, 1) := by decide +kernel
theorem dX8_jump_80 : decode cX8_jump 80 = .ok (.goto 14, 3) := by decide +kernel
theorem dX8_jump_83 : decode cX8_jump 83 = .ok (.iload_n 1, 1) := by decide +kernel
theorem dX8_jump_84 : decode cX8_jump 84 = .ok (.bipush 114, 2) := by decide +kernel
theorem dX8_jump_86 : decode cX8_jump 86 = .ok (.if_icmp .ne 7, 3) := by decide +kernel
theorem dX8_jump_89 : decode cX8_jump 89 = .ok (.iconst 3, 1) := by decide +kernel
theorem dX8_jump_90 : decode cX8_jump 90 = .ok (.goto 4, 3) := by decide +kernel
theorem dX8_jump_93 : decode cX8_jump 93 = .ok (.iconst 0, 1) := by decide +kernel
theorem dX8_jump_94 : decode cX8_jump 94 = .ok (.iadd, 1) := by decide +kernel
theorem dX8_jump_95 : decode cX8_jump 95 = .ok (.iadd, 1) := by decide +kernel
theorem dX8_jump_96 : decode cX8_jump 96 = .ok (.istore_n 2, 1) := by decide +kernel
theorem dX8_jump_97 : decode cX8_jump 97 = .ok (.iinc 3 1, 3) := by decide +kernel
theorem dX8_jump_100 : decode cX8_jump 100 = .ok (.goto (-68), 3) := by decide +kernel
theorem dX8_jump_103 : decode cX8_jump 103 = .ok (.iload_n 2, 1) := by decide +kernel
theorem dX8_jump_104 : decode cX8_jump 104 = .ok (.ireturn, 1) := by decide +kernel
theorem dX9_init_0 : decode cX9_init 0 = .ok (.aload_n 0, 1) := by decide +kernel
theorem dX9_init_1 : decode cX9_init 1 = .ok (.invokespecial 1, 3) := by decide +kernel
theorem dX9_init_4 : decode cX9_init 4 = .ok (.aload_n 0, 1) := by decide +kernel
theorem dX9_init_5 : decode cX9_init 5 = .ok (.iload_n 1, 1) := by decide +kernel
theorem dX9_init_6 : decode cX9_init 6 = .ok (.putfield 7, 3) := by decide +kernel
theorem dX9_init_9 : decode cX9_init 9 = .ok (.aload_n 0, 1) := by decide +kernel
theorem dX9_init_10 : decode cX9_init 10 = .ok (.iload_n 2, 1) := by decide +kernel
theorem dX9_init_11 : decode cX9_init 11 = .ok (.putfield 13, 3) := by decide +kernel
theorem dX9_init_14 : decode cX9_init 14 = .ok (.aload_n 0, 1) := by decide +kernel
theorem dX9_init_15 : decode cX9_init 15 = .ok (.iload_n 3, 1) := by decide +kernel
theorem dX9_init_16 : decode cX9_init 16 = .ok (.putfield 16, 3) := by decide +kernel
theorem dX9_init_19 : decode cX9_init 19 = .ok (.aload_n 0, 1) := by decide +kernel
theorem dX9_init_20 : decode cX9_init 20 = .ok (.iload 4, 2) := by decide +kernel
theorem dX9_init_22 : decode cX9_init 22 = .ok (.putfield 19, 3) := by decide +kernel
theorem dX9_init_25 : decode cX9_init 25 = .ok (.return_, 1) := by decide +kernel
theorem dX10_init_0 : decode cX10_init 0 = .ok (.aload_n 0, 1) := by decide +kernel
theorem dX10_init_1 : decode cX10_init 1 = .ok (.invokespecial 1, 3) := by decide +kernel
theorem dX10_init_4 : decode cX10_init 4 = .ok (.aload_n 0, 1) := by decide +kernel
theorem dX10_init_5 : decode cX10_init 5 = .ok (.iload_n 1, 1) := by decide +kernel
theorem dX10_init_6 : decode cX10_init 6 = .ok (.putfield 7, 3) := by decide +kernel
theorem dX10_init_9 : decode cX10_init 9 = .ok (.aload_n 0, 1) := by decide +kernel
theorem dX10_init_10 : decode cX10_init 10 = .ok (.iload_n 2, 1) := by decide +kernel
theorem dX10_init_11 : decode cX10_init 11 = .ok (.putfield 13, 3) := by decide +kernel
theorem dX10_init_14 : decode cX10_init 14 = .ok (.aload_n 0, 1) := by decide +kernel
theorem dX10_init_15 : decode cX10_init 15 = .ok (.iload_n 3, 1) := by decide +kernel
theorem dX10_init_16 : decode cX10_init 16 = .ok (.putfield 16, 3) := by decide +kernel
theorem dX10_init_19 : decode cX10_init 19 = .ok (.return_, 1) := by decide +kernel
theorem dX10_left_0 : decode cX10_left 0 = .ok (.aload_n 0, 1) := by decide +kernel
theorem dX10_left_1 : decode cX10_left 1 = .ok (.getfield 19, 3) := by decide +kernel
theorem dX10_left_4 : decode cX10_left 4 = .ok (.ifnonnull 7, 3) := by decide +kernel
theorem dX10_left_7 : decode cX10_left 7 = .ok (.iconst 0, 1) := by decide +kernel
theorem dX10_left_8 : decode cX10_left 8 = .ok (.goto 25, 3) := by decide +kernel
theorem dX10_left_11 : decode cX10_left 11 = .ok (.iconst 0, 1) := by decide +kernel
theorem dX10_left_12 : decode cX10_left 12 = .ok (.bipush 10, 2) := by decide +kernel
theorem dX10_left_14 : decode cX10_left 14 = .ok (.aload_n 0, 1) := by decide +kernel
theorem dX10_left_15 : decode cX10_left 15 = .ok (.getfield 19, 3) := by decide +kernel
theorem dX10_left_18 : decode cX10_left 18 = .ok (.getfield 23, 3) := by decide +kernel
theorem dX10_left_21 : decode cX10_left 21 = .ok (.getfield 29, 3) := by decide +kernel
theorem dX10_left_24 : decode cX10_left 24 = .ok (.imul, 1) := by decide +kernel
theorem dX10_left_25 : decode cX10_left 25 = .ok (.aload_n 0, 1) := by decide +kernel
theorem dX10_left_26 : decode cX10_left 26 = .ok (.getfield 34, 3) := by decide +kernel
theorem dX10_left_29 : decode cX10_left 29 = .ok (.isub, 1) := by decide +kernel
theorem dX10_left_30 : decode cX10_left 30 = .ok (.invokestatic 37, 3) := by decide +kernel
theorem dX10_left_33 : decode cX10_left 33 = .ok (.ireturn, 1) := by decide +kernel
theorem dX10_leaves_0 : decode cX10_leaves 0 = .ok (.aload_n 0, 1) := by decide +kernel
theorem dX10_leaves_1 : decode cX10_leaves 1 = .ok (.getfield 19, 3) := by decide +kernel
theorem dX10_leaves_4 : decode cX10_leaves 4 = .ok (.ifnonnull 7, 3) := by decide +kernel
theorem dX10_leaves_7 : decode cX10_leaves 7 = .ok (.iconst 0, 1) := by decide +kernel
theorem dX10_leaves_8 : decode cX10_leaves 8 = .ok (.goto 10, 3) := by decide +kernel
theorem dX10_leaves_11 : decode cX10_leaves 11 = .ok (.aload_n 0, 1) := by decide +kernel
theorem dX10_leaves_12 : decode cX10_leaves 12 = .ok (.getfield 19, 3) := by decide +kernel
theorem dX10_leaves_15 : decode cX10_leaves 15 = .ok (.getfield 43, 3) := by decide +kernel
theorem dX10_leaves_18 : decode cX10_leaves 18 = .ok (.aload_n 0, 1) := by decide +kernel
theorem dX10_leaves_19 : decode cX10_leaves 19 = .ok (.getfield 46, 3) := by decide +kernel
theorem dX10_leaves_22 : decode cX10_leaves 22 = .ok (.ifnonnull 7, 3) := by decide +kernel
theorem dX10_leaves_25 : decode cX10_leaves 25 = .ok (.iconst 0, 1) := by decide +kernel
theorem dX10_leaves_26 : decode cX10_leaves 26 = .ok (.goto 10, 3) := by decide +kernel
theorem dX10_leaves_29 : decode cX10_leaves 29 = .ok (.aload_n 0, 1) := by decide +kernel
theorem dX10_leaves_30 : decode cX10_leaves 30 = .ok (.getfield 46, 3) := by decide +kernel
theorem dX10_leaves_33 : decode cX10_leaves 33 = .ok (.getfield 43, 3) := by decide +kernel
theorem dX10_leaves_36 : decode cX10_leaves 36 = .ok (.iadd, 1) := by decide +kernel
theorem dX10_leaves_37 : decode cX10_leaves 37 = .ok (.ireturn, 1) := by decide +kernel
theorem dX11_init_0 : decode cX11_init 0 = .ok (.aload_n 0, 1) := by decide +kernel
theorem dX11_init_1 : decode cX11_init 1 = .ok (.invokespecial 3, 3) := by decide +kernel
theorem dX11_init_4 : decode cX11_init 4 = .ok (.aload_n 0, 1) := by decide +kernel
theorem dX11_init_5 : decode cX11_init 5 = .ok (.bipush 64, 2) := by decide +kernel
theorem dX11_init_7 : decode cX11_init 7 = .ok (.newarray .int, 2) := by decide +kernel
theorem dX11_init_9 : decode cX11_init 9 = .ok (.putfield 9, 3) := by decide +kernel
theorem dX11_init_12 : decode cX11_init 12 = .ok (.aload_n 0, 1) := by decide +kernel
theorem dX11_init_13 : decode cX11_init 13 = .ok (.bipush 8, 2) := by decide +kernel
theorem dX11_init_15 : decode cX11_init 15 = .ok (.newarray .int, 2) := by decide +kernel
theorem dX11_init_17 : decode cX11_init 17 = .ok (.putfield 15, 3) := by decide +kernel
theorem dX11_init_20 : decode cX11_init 20 = .ok (.return_, 1) := by decide +kernel
theorem dX11_pieces_0 : decode cX11_pieces 0 = .ok (.bipush 64, 2) := by decide +kernel
theorem dX11_pieces_2 : decode cX11_pieces 2 = .ok (.newarray .int, 2) := by decide +kernel
theorem dX11_pieces_4 : decode cX11_pieces 4 = .ok (.astore_n 1, 1) := by decide +kernel
theorem dX11_pieces_5 : decode cX11_pieces 5 = .ok (.iconst 0, 1) := by decide +kernel
theorem dX11_pieces_6 : decode cX11_pieces 6 = .ok (.istore_n 2, 1) := by decide +kernel
theorem dX11_pieces_7 : decode cX11_pieces 7 = .ok (.iconst 0, 1) := by decide +kernel
theorem dX11_pieces_8 : decode cX11_pieces 8 = .ok (.istore_n 3, 1) := by decide +kernel
theorem dX11_pieces_9 : decode cX11_pieces 9 = .ok (.iload_n 3, 1) := by decide +kernel
theorem dX11_pieces_10 : decode cX11_pieces 10 = .ok (.bipush 64, 2) := by decide +kernel
theorem dX11_pieces_12 : decode cX11_pieces 12 = .ok (.if_icmp .ge 13, 3) := by decide +kernel
theorem dX11_pieces_15 : decode cX11_pieces 15 = .ok (.aload_n 1, 1) := by decide +kernel
theorem dX11_pieces_16 : decode cX11_pieces 16 = .ok (.iload_n 3, 1) := by decide +kernel
theorem dX11_pieces_17 : decode cX11_pieces 17 = .ok (.iconst (-1), 1) := by decide +kernel
theorem dX11_pieces_18 : decode cX11_pieces 18 = .ok (.iastore, 1) := by decide +kernel
theorem dX11_pieces_19 : decode cX11_pieces 19 = .ok (.iinc 3 1, 3) := by decide +kernel
theorem dX11_pieces_22 : decode cX11_pieces 22 = .ok (.goto (-13), 3) := by decide +kernel
theorem dX11_pieces_25 : decode cX11_pieces 25 = .ok (.iconst 0, 1) := by decide +kernel
theorem dX11_pieces_26 : decode cX11_pieces 26 = .ok (.istore_n 3, 1) := by decide +kernel
theorem dX11_pieces_27 : decode cX11_pieces 27 = .ok (.iload_n 3, 1) := by decide +kernel
theorem dX11_pieces_28 : decode cX11_pieces 28 = .ok (.bipush 64, 2) := by decide +kernel
theorem dX11_pieces_30 : decode cX11_pieces 30 = .ok (.if_icmp .ge 26, 3) := by decide +kernel
theorem dX11_pieces_33 : decode cX11_pieces 33 = .ok (.aload_n 1, 1) := by decide +kernel
theorem dX11_pieces_34 : decode cX11_pieces 34 = .ok (.iload_n 3, 1) := by decide +kernel
theorem dX11_pieces_35 : decode cX11_pieces 35 = .ok (.iaload, 1) := by decide +kernel
theorem dX11_pieces_36 : decode cX11_pieces 36 = .ok (.iconst (-1), 1) := by decide +kernel
theorem dX11_pieces_37 : decode cX11_pieces 37 = .ok (.if_icmp .ne 13, 3) := by decide +kernel
theorem dX11_pieces_40 : decode cX11_pieces 40 = .ok (.aload_n 0, 1) := by decide +kernel
theorem dX11_pieces_41 : decode cX11_pieces 41 = .ok (.aload_n 1, 1) := by decide +kernel
theorem dX11_pieces_42 : decode cX11_pieces 42 = .ok (.iload_n 3, 1) := by decide +kernel
theorem dX11_pieces_43 : decode cX11_pieces 43 = .ok (.iload_n 2, 1) := by decide +kernel
theorem dX11_pieces_44 : decode cX11_pieces 44 = .ok (.invokevirtual 18, 3) := by decide +kernel
theorem dX11_pieces_47 : decode cX11_pieces 47 = .ok (.iinc 2 1, 3) := by decide +kernel
theorem dX11_pieces_50 : decode cX11_pieces 50 = .ok (.iinc 3 1, 3) := by decide +kernel
theorem dX11_pieces_53 : decode cX11_pieces 53 = .ok (.goto (-26), 3) := by decide +kernel
theorem dX11_pieces_56 : decode cX11_pieces 56 = .ok (.aload_n 1, 1) := by decide +kernel
theorem dX11_pieces_57 : decode cX11_pieces 57 = .ok (.areturn, 1) := by decide +kernel
theorem dX11_fills_0 : decode cX11_fills 0 = .ok (.new 22, 3) := by decide +kernel
theorem dX11_fills_3 : decode cX11_fills 3 = .ok (.dup, 1) := by decide +kernel
theorem dX11_fills_4 : decode cX11_fills 4 = .ok (.invokespecial 24, 3) := by decide +kernel
theorem dX11_fills_7 : decode cX11_fills 7 = .ok (.astore 4, 2) := by decide +kernel
theorem dX11_fills_9 : decode cX11_fills 9 = .ok (.aload 4, 2) := by decide +kernel
theorem dX11_fills_11 : decode cX11_fills 11 = .ok (.iload_n 2, 1) := by decide +kernel
theorem dX11_fills_12 : decode cX11_fills 12 = .ok (.invokestatic 25, 3) := by decide +kernel
theorem dX11_fills_15 : decode cX11_fills 15 = .ok (.invokeinterface 31 2, 5) := by decide +kernel
theorem dX11_fills_20 : decode cX11_fills 20 = .ok (.pop, 1) := by decide +kernel
theorem dX11_fills_21 : decode cX11_fills 21 = .ok (.aload_n 1, 1) := by decide +kernel
theorem dX11_fills_22 : decode cX11_fills 22 = .ok (.iload_n 2, 1) := by decide +kernel
theorem dX11_fills_23 : decode cX11_fills 23 = .ok (.iload_n 3, 1) := by decide +kernel
theorem dX11_fills_24 : decode cX11_fills 24 = .ok (.iastore, 1) := by decide +kernel
theorem dX11_fills_25 : decode cX11_fills 25 = .ok (.iconst 0, 1) := by decide +kernel
theorem dX11_fills_26 : decode cX11_fills 26 = .ok (.istore 5, 2) := by decide +kernel
theorem dX11_fills_28 : decode cX11_fills 28 = .ok (.iload 5, 2) := by decide +kernel
theorem dX11_fills_30 : decode cX11_fills 30 = .ok (.aload 4, 2) := by decide +kernel
theorem dX11_fills_32 : decode cX11_fills 32 = .ok (.invokeinterface 37 1, 5) := by decide +kernel
theorem dX11_fills_37 : decode cX11_fills 37 = .ok (.if_icmp .ge 94, 3) := by decide +kernel
theorem dX11_fills_40 : decode cX11_fills 40 = .ok (.iconst 0, 1) := by decide +kernel
theorem dX11_fills_41 : decode cX11_fills 41 = .ok (.istore 6, 2) := by decide +kernel
theorem dX11_fills_43 : decode cX11_fills 43 = .ok (.iload 6, 2) := by decide +kernel
theorem dX11_fills_45 : decode cX11_fills 45 = .ok (.iconst 4, 1) := by decide +kernel
theorem dX11_fills_46 : decode cX11_fills 46 = .ok (.if_icmp .ge 79, 3) := by decide +kernel
theorem dX11_fills_49 : decode cX11_fills 49 = .ok (.aload 4, 2) := by decide +kernel
theorem dX11_fills_51 : decode cX11_fills 51 = .ok (.iload 5, 2) := by decide +kernel
theorem dX11_fills_53 : decode cX11_fills 53 = .ok (.invokeinterface 41 2, 5) := by decide +kernel
theorem dX11_fills_58 : decode cX11_fills 58 = .ok (.checkcast 26, 3) := by decide +kernel
theorem dX11_fills_61 : decode cX11_fills 61 = .ok (.invokevirtual 45, 3) := by decide +kernel
theorem dX11_fills_64 : decode cX11_fills 64 = .ok (.iload 6, 2) := by decide +kernel
theorem dX11_fills_66 : decode cX11_fills 66 = .ok (.invokestatic 48, 3) := by decide +kernel
theorem dX11_fills_69 : decode cX11_fills 69 = .ok (.istore 7, 2) := by decide +kernel
theorem dX11_fills_71 : decode cX11_fills 71 = .ok (.iload 7, 2) := by decide +kernel
theorem dX11_fills_73 : decode cX11_fills 73 = .ok (.iconst (-1), 1) := by decide +kernel
theorem dX11_fills_74 : decode cX11_fills 74 = .ok (.if_icmp .eq 45, 3) := by decide +kernel
theorem dX11_fills_77 : decode cX11_fills 77 = .ok (.aload_n 1, 1) := by decide +kernel
theorem dX11_fills_78 : decode cX11_fills 78 = .ok (.iload 7, 2) := by decide +kernel
theorem dX11_fills_80 : decode cX11_fills 80 = .ok (.iaload, 1) := by decide +kernel
theorem dX11_fills_81 : decode cX11_fills 81 = .ok (.iconst (-1), 1) := by decide +kernel
theorem dX11_fills_82 : decode cX11_fills 82 = .ok (.if_icmp .ne 37, 3) := by decide +kernel
theorem dX11_fills_85 : decode cX11_fills 85 = .ok (.aload_n 0, 1) := by decide +kernel
theorem dX11_fills_86 : decode cX11_fills 86 = .ok (.getfield 9, 3) := by decide +kernel
theorem dX11_fills_89 : decode cX11_fills 89 = .ok (.iload 7, 2) := by decide +kernel
theorem dX11_fills_91 : decode cX11_fills 91 = .ok (.iaload, 1) := by decide +kernel
theorem dX11_fills_92 : decode cX11_fills 92 = .ok (.aload_n 0, 1) := by decide +kernel
theorem dX11_fills_93 : decode cX11_fills 93 = .ok (.getfield 9, 3) := by decide +kernel
theorem dX11_fills_96 : decode cX11_fills 96 = .ok (.iload_n 2, 1) := by decide +kernel
theorem dX11_fills_97 : decode cX11_fills 97 = .ok (.iaload, 1) := by decide +kernel
theorem dX11_fills_98 : decode cX11_fills 98 = .ok (.if_icmp .ne 21, 3) := by decide +kernel
theorem dX11_fills_101 : decode cX11_fills 101 = .ok (.aload_n 1, 1) := by decide +kernel
theorem dX11_fills_102 : decode cX11_fills 102 = .ok (.iload 7, 2) := by decide +kernel
theorem dX11_fills_104 : decode cX11_fills 104 = .ok (.iload_n 3, 1) := by decide +kernel
theorem dX11_fills_105 : decode cX11_fills 105 = .ok (.iastore, 1) := by decide +kernel
theorem dX11_fills_106 : decode cX11_fills 106 = .ok (.aload 4, 2) := by decide +kernel
theorem dX11_fills_108 : decode cX11_fills 108 = .ok (.iload 7, 2) := by decide +kernel
theorem dX11_fills_110 : decode cX11_fills 110 = .ok (.invokestatic 25, 3) := by decide +kernel
theorem dX11_fills_113 : decode cX11_fills 113 = .ok (.invokeinterface 31 2, 5) := by decide +kernel
theorem dX11_fills_118 : decode cX11_fills 118 = .ok (.pop, 1) := by decide +kernel
theorem dX11_fills_119 : decode cX11_fills 119 = .ok (.iinc 6 1, 3) := by decide +kernel
theorem dX11_fills_122 : decode cX11_fills 122 = .ok (.goto (-79), 3) := by decide +kernel
theorem dX11_fills_125 : decode cX11_fills 125 = .ok (.iinc 5 1, 3) := by decide +kernel
theorem dX11_fills_128 : decode cX11_fills 128 = .ok (.goto (-100), 3) := by decide +kernel
theorem dX11_fills_131 : decode cX11_fills 131 = .ok (.return_, 1) := by decide +kernel
theorem dX12_init_0 : decode cX12_init 0 = .ok (.aload_n 0, 1) := by decide +kernel
theorem dX12_init_1 : decode cX12_init 1 = .ok (.invokespecial 1, 3) := by decide +kernel
theorem dX12_init_4 : decode cX12_init 4 = .ok (.aload_n 0, 1) := by decide +kernel
theorem dX12_init_5 : decode cX12_init 5 = .ok (.new 7, 3) := by decide +kernel
theorem dX12_init_8 : decode cX12_init 8 = .ok (.dup, 1) := by decide +kernel
theorem dX12_init_9 : decode cX12_init 9 = .ok (.invokespecial 9, 3) := by decide +kernel
theorem dX12_init_12 : decode cX12_init 12 = .ok (.putfield 10, 3) := by decide +kernel
theorem dX12_init_15 : decode cX12_init 15 = .ok (.aload_n 0, 1) := by decide +kernel
theorem dX12_init_16 : decode cX12_init 16 = .ok (.new 7, 3) := by decide +kernel
theorem dX12_init_19 : decode cX12_init 19 = .ok (.dup, 1) := by decide +kernel
theorem dX12_init_20 : decode cX12_init 20 = .ok (.invokespecial 9, 3) := by decide +kernel
theorem dX12_init_23 : decode cX12_init 23 = .ok (.putfield 16, 3) := by decide +kernel
theorem dX12_init_26 : decode cX12_init 26 = .ok (.aload_n 0, 1) := by decide +kernel
theorem dX12_init_27 : decode cX12_init 27 = .ok (.new 7, 3) := by decide +kernel
theorem dX12_init_30 : decode cX12_init 30 = .ok (.dup, 1) := by decide +kernel
theorem dX12_init_31 : decode cX12_init 31 = .ok (.invokespecial 9, 3) := by decide +kernel
theorem dX12_init_34 : decode cX12_init 34 = .ok (.putfield 19, 3) := by decide +kernel
theorem dX12_init_37 : decode cX12_init 37 = .ok (.aload_n 0, 1) := by decide +kernel
theorem dX12_init_38 : decode cX12_init 38 = .ok (.new 7, 3) := by decide +kernel
theorem dX12_init_41 : decode cX12_init 41 = .ok (.dup, 1) := by decide +kernel
theorem dX12_init_42 : decode cX12_init 42 = .ok (.invokespecial 9, 3) := by decide +kernel
theorem dX12_init_45 : decode cX12_init 45 = .ok (.putfield 22, 3) := by decide +kernel
theorem dX12_init_48 : decode cX12_init 48 = .ok (.aload_n 0, 1) := by decide +kernel
theorem dX12_init_49 : decode cX12_init 49 = .ok (.new 7, 3) := by decide +kernel
theorem dX12_init_52 : decode cX12_init 52 = .ok (.dup, 1) := by decide +kernel
theorem dX12_init_53 : decode cX12_init 53 = .ok (.invokespecial 9, 3) := by decide +kernel
theorem dX12_init_56 : decode cX12_init 56 = .ok (.putfield 25, 3) := by decide +kernel
theorem dX12_init_59 : decode cX12_init 59 = .ok (.aload_n 0, 1) := by decide +kernel
theorem dX12_init_60 : decode cX12_init 60 = .ok (.bipush 8, 2) := by decide +kernel
theorem dX12_init_62 : decode cX12_init 62 = .ok (.putfield 28, 3) := by decide +kernel
theorem dX12_init_65 : decode cX12_init 65 = .ok (.aload_n 0, 1) := by decide +kernel
theorem dX12_init_66 : decode cX12_init 66 = .ok (.new 7, 3) := by decide +kernel
theorem dX12_init_69 : decode cX12_init 69 = .ok (.dup, 1) := by decide +kernel
theorem dX12_init_70 : decode cX12_init 70 = .ok (.invokespecial 9, 3) := by decide +kernel
theorem dX12_init_73 : decode cX12_init 73 = .ok (.putfield 32, 3) := by decide +kernel
theorem dX12_init_76 : decode cX12_init 76 = .ok (.return_, 1) := by decide +kernel
theorem dX12_thrown_0 : decode cX12_thrown 0 = .ok (.aload_n 0, 1) := by decide +kernel
theorem dX12_thrown_1 : decode cX12_thrown 1 = .ok (.getfield 35, 3) := by decide +kernel
theorem dX12_thrown_4 : decode cX12_thrown 4 = .ok (.ireturn, 1) := by decide +kernel
theorem dX12_in_0 : decode cX12_in 0 = .ok (.lload_n 0, 1) := by decide +kernel
theorem dX12_in_1 : decode cX12_in 1 = .ok (.lload_n 2, 1) := by decide +kernel
theorem dX12_in_2 : decode cX12_in 2 = .ok (.lcmp, 1) := by decide +kernel
theorem dX12_in_3 : decode cX12_in 3 = .ok (.ifCond .lt 14, 3) := by decide +kernel
theorem dX12_in_6 : decode cX12_in 6 = .ok (.lload_n 0, 1) := by decide +kernel
theorem dX12_in_7 : decode cX12_in 7 = .ok (.lload 4, 2) := by decide +kernel
theorem dX12_in_9 : decode cX12_in 9 = .ok (.lcmp, 1) := by decide +kernel
theorem dX12_in_10 : decode cX12_in 10 = .ok (.ifCond .gt 7, 3) := by decide +kernel
theorem dX12_in_13 : decode cX12_in 13 = .ok (.iconst 1, 1) := by decide +kernel
theorem dX12_in_14 : decode cX12_in 14 = .ok (.goto 4, 3) := by decide +kernel
theorem dX12_in_17 : decode cX12_in 17 = .ok (.iconst 0, 1) := by decide +kernel
theorem dX12_in_18 : decode cX12_in 18 = .ok (.ireturn, 1) := by decide +kernel
theorem dX12_isOf_0 : decode cX12_isOf 0 = .ok (.iload_n 1, 1) := by decide +kernel
theorem dX12_isOf_1 : decode cX12_isOf 1 = .ok (.i2l, 1) := by decide +kernel
theorem dX12_isOf_2 : decode cX12_isOf 2 = .ok (.lconst 0, 1) := by decide +kernel
theorem dX12_isOf_3 : decode cX12_isOf 3 = .ok (.aload_n 0, 1) := by decide +kernel
theorem dX12_isOf_4 : decode cX12_isOf 4 = .ok (.invokeinterface 38 1, 5) := by decide +kernel
theorem dX12_isOf_9 : decode cX12_isOf 9 = .ok (.iconst 1, 1) := by decide +kernel
theorem dX12_isOf_10 : decode cX12_isOf 10 = .ok (.isub, 1) := by decide +kernel
theorem dX12_isOf_11 : decode cX12_isOf 11 = .ok (.i2l, 1) := by decide +kernel
theorem dX12_isOf_12 : decode cX12_isOf 12 = .ok (.invokestatic 44, 3) := by decide +kernel
theorem dX12_isOf_15 : decode cX12_isOf 15 = .ok (.ireturn, 1) := by decide +kernel
theorem dX12_fails_0 : decode cX12_fails 0 = .ok (.aload_n 0, 1) := by decide +kernel
theorem dX12_fails_1 : decode cX12_fails 1 = .ok (.getfield 35, 3) := by decide +kernel
theorem dX12_fails_4 : decode cX12_fails 4 = .ok (.ifCond .ne 12, 3) := by decide +kernel
theorem dX12_fails_7 : decode cX12_fails 7 = .ok (.iload_n 1, 1) := by decide +kernel
theorem dX12_fails_8 : decode cX12_fails 8 = .ok (.ifCond .eq 8, 3) := by decide +kernel
theorem dX12_fails_11 : decode cX12_fails 11 = .ok (.aload_n 0, 1) := by decide +kernel
theorem dX12_fails_12 : decode cX12_fails 12 = .ok (.iload_n 2, 1) := by decide +kernel
theorem dX12_fails_13 : decode cX12_fails 13 = .ok (.putfield 35, 3) := by decide +kernel
theorem dX12_fails_16 : decode cX12_fails 16 = .ok (.aload_n 0, 1) := by decide +kernel
theorem dX12_fails_17 : decode cX12_fails 17 = .ok (.getfield 35, 3) := by decide +kernel
theorem dX12_fails_20 : decode cX12_fails 20 = .ok (.ifCond .le 7, 3) := by decide +kernel
theorem dX12_fails_23 : decode cX12_fails 23 = .ok (.iconst 1, 1) := by decide +kernel
theorem dX12_fails_24 : decode cX12_fails 24 = .ok (.goto 4, 3) := by decide +kernel
theorem dX12_fails_27 : decode cX12_fails 27 = .ok (.iconst 0, 1) := by decide +kernel
theorem dX12_fails_28 : decode cX12_fails 28 = .ok (.ireturn, 1) := by decide +kernel
theorem dX12_begins_0 : decode cX12_begins 0 = .ok (.aload_n 0, 1) := by decide +kernel
theorem dX12_begins_1 : decode cX12_begins 1 = .ok (.iconst 0, 1) := by decide +kernel
theorem dX12_begins_2 : decode cX12_begins 2 = .ok (.putfield 35, 3) := by decide +kernel
theorem dX12_begins_5 : decode cX12_begins 5 = .ok (.return_, 1) := by decide +kernel
theorem dX12_root_0 : decode cX12_root 0 = .ok (.iconst 0, 1) := by decide +kernel
theorem dX12_root_1 : decode cX12_root 1 = .ok (.istore_n 1, 1) := by decide +kernel
theorem dX12_root_2 : decode cX12_root 2 = .ok (.iload_n 1, 1) := by decide +kernel
theorem dX12_root_3 : decode cX12_root 3 = .ok (.iconst 1, 1) := by decide +kernel
theorem dX12_root_4 : decode cX12_root 4 = .ok (.iadd, 1) := by decide +kernel
theorem dX12_root_5 : decode cX12_root 5 = .ok (.iload_n 1, 1) := by decide +kernel
theorem dX12_root_6 : decode cX12_root 6 = .ok (.iconst 1, 1) := by decide +kernel
theorem dX12_root_7 : decode cX12_root 7 = .ok (.iadd, 1) := by decide +kernel
theorem dX12_root_8 : decode cX12_root 8 = .ok (.imul, 1) := by decide +kernel
theorem dX12_root_9 : decode cX12_root 9 = .ok (.iload_n 0, 1) := by decide +kernel
theorem dX12_root_10 : decode cX12_root 10 = .ok (.if_icmp .gt 9, 3) := by decide +kernel
theorem dX12_root_13 : decode cX12_root 13 = .ok (.iinc 1 1, 3) := by decide +kernel
theorem dX12_root_16 : decode cX12_root 16 = .ok (.goto (-14), 3) := by decide +kernel
theorem dX12_root_19 : decode cX12_root 19 = .ok (.iload_n 1, 1) := by decide +kernel
theorem dX12_root_20 : decode cX12_root 20 = .ok (.ireturn, 1) := by decide +kernel
theorem dX12_log_0 : decode cX12_log 0 = .ok (.aload_n 0, 1) := by decide +kernel
theorem dX12_log_1 : decode cX12_log 1 = .ok (.invokevirtual 48, 3) := by decide +kernel
theorem dX12_log_4 : decode cX12_log 4 = .ok (.aload_n 0, 1) := by decide +kernel
theorem dX12_log_5 : decode cX12_log 5 = .ok (.ldc 51, 2) := by decide +kernel
theorem dX12_log_7 : decode cX12_log 7 = .ok (.iload_n 1, 1) := by decide +kernel
theorem dX12_log_8 : decode cX12_log 8 = .ok (.invokevirtual 53, 3) := by decide +kernel
theorem dX12_log_11 : decode cX12_log 11 = .ok (.ifCond .lt 39, 3) := by decide +kernel
theorem dX12_log_14 : decode cX12_log 14 = .ok (.iload_n 2, 1) := by decide +kernel
theorem dX12_log_15 : decode cX12_log 15 = .ok (.i2l, 1) := by decide +kernel
theorem dX12_log_16 : decode cX12_log 16 = .ok (.ldc2_w 59, 3) := by decide +kernel
theorem dX12_log_19 : decode cX12_log 19 = .ok (.ldc2_w 61, 3) := by decide +kernel
theorem dX12_log_22 : decode cX12_log 22 = .ok (.invokestatic 44, 3) := by decide +kernel
theorem dX12_log_25 : decode cX12_log 25 = .ok (.ifCond .eq 25, 3) := by decide +kernel
theorem dX12_log_28 : decode cX12_log 28 = .ok (.iload_n 3, 1) := by decide +kernel
theorem dX12_log_29 : decode cX12_log 29 = .ok (.i2l, 1) := by decide +kernel
theorem dX12_log_30 : decode cX12_log 30 = .ok (.lconst 1, 1) := by decide +kernel
theorem dX12_log_31 : decode cX12_log 31 = .ok (.ldc2_w 63, 3) := by decide +kernel
theorem dX12_log_34 : decode cX12_log 34 = .ok (.invokestatic 44, 3) := by decide +kernel
theorem dX12_log_37 : decode cX12_log 37 = .ok (.ifCond .eq 13, 3) := by decide +kernel
theorem dX12_log_40 : decode cX12_log 40 = .ok (.ldc 65, 2) := by decide +kernel
theorem dX12_log_42 : decode cX12_log 42 = .ok (.iload 4, 2) := by decide +kernel
theorem dX12_log_44 : decode cX12_log 44 = .ok (.invokevirtual 53, 3) := by decide +kernel
theorem dX12_log_47 : decode cX12_log 47 = .ok (.ifCond .ge 7, 3) := by decide +kernel
theorem dX12_log_50 : decode cX12_log 50 = .ok (.iconst 1, 1) := by decide +kernel
theorem dX12_log_51 : decode cX12_log 51 = .ok (.goto 4, 3) := by decide +kernel
theorem dX12_log_54 : decode cX12_log 54 = .ok (.iconst 0, 1) := by decide +kernel
theorem dX12_log_55 : decode cX12_log 55 = .ok (.iconst 1, 1) := by decide +kernel
theorem dX12_log_56 : decode cX12_log 56 = .ok (.invokevirtual 67, 3) := by decide +kernel
theorem dX12_log_59 : decode cX12_log 59 = .ok (.ifCond .ne 30, 3) := by decide +kernel
theorem dX12_log_62 : decode cX12_log 62 = .ok (.aload_n 0, 1) := by decide +kernel
theorem dX12_log_63 : decode cX12_log 63 = .ok (.aload_n 0, 1) := by decide +kernel
theorem dX12_log_64 : decode cX12_log 64 = .ok (.getfield 10, 3) := by decide +kernel
theorem dX12_log_67 : decode cX12_log 67 = .ok (.invokeinterface 38 1, 5) := by decide +kernel
theorem dX12_log_72 : decode cX12_log 72 = .ok (.bipush 8, 2) := by decide +kernel
theorem dX12_log_74 : decode cX12_log 74 = .ok (.if_icmp .ne 7, 3) := by decide +kernel
theorem dX12_log_77 : decode cX12_log 77 = .ok (.iconst 1, 1) := by decide +kernel
theorem dX12_log_78 : decode cX12_log 78 = .ok (.goto 4, 3) := by decide +kernel
theorem dX12_log_81 : decode cX12_log 81 = .ok (.iconst 0, 1) := by decide +kernel
theorem dX12_log_82 : decode cX12_log 82 = .ok (.iconst 2, 1) := by decide +kernel
theorem dX12_log_83 : decode cX12_log 83 = .ok (.invokevirtual 67, 3) := by decide +kernel
theorem dX12_log_86 : decode cX12_log 86 = .ok (.ifCond .eq 5, 3) := by decide +kernel
theorem dX12_log_89 : decode cX12_log 89 = .ok (.iconst (-1), 1) := by decide +kernel
theorem dX12_log_90 : decode cX12_log 90 = .ok (.ireturn, 1) := by decide +kernel
theorem dX12_log_91 : decode cX12_log 91 = .ok (.aload_n 0, 1) := by decide +kernel
theorem dX12_log_92 : decode cX12_log 92 = .ok (.getfield 10, 3) := by decide +kernel
theorem dX12_log_95 : decode cX12_log 95 = .ok (.new 71, 3) := by decide +kernel
theorem dX12_log_98 : decode cX12_log 98 = .ok (.dup, 1) := by decide +kernel
theorem dX12_log_99 : decode cX12_log 99 = .ok (.ldc 51, 2) := by decide +kernel
theorem dX12_log_101 : decode cX12_log 101 = .ok (.iload_n 1, 1) := by decide +kernel
theorem dX12_log_102 : decode cX12_log 102 = .ok (.invokevirtual 53, 3) := by decide +kernel
theorem dX12_log_105 : decode cX12_log 105 = .ok (.iload_n 2, 1) := by decide +kernel
theorem dX12_log_106 : decode cX12_log 106 = .ok (.iload_n 3, 1) := by decide +kernel
theorem dX12_log_107 : decode cX12_log 107 = .ok (.iload 4, 2) := by decide +kernel
theorem dX12_log_109 : decode cX12_log 109 = .ok (.invokespecial 73, 3) := by decide +kernel
theorem dX12_log_112 : decode cX12_log 112 = .ok (.invokeinterface 76 2, 5) := by decide +kernel
theorem dX12_log_117 : decode cX12_log 117 = .ok (.pop, 1) := by decide +kernel
theorem dX12_log_118 : decode cX12_log 118 = .ok (.aload_n 0, 1) := by decide +kernel
theorem dX12_log_119 : decode cX12_log 119 = .ok (.getfield 10, 3) := by decide +kernel
theorem dX12_log_122 : decode cX12_log 122 = .ok (.invokeinterface 38 1, 5) := by decide +kernel
theorem dX12_log_127 : decode cX12_log 127 = .ok (.iconst 1, 1) := by decide +kernel
theorem dX12_log_128 : decode cX12_log 128 = .ok (.isub, 1) := by decide +kernel
theorem dX12_log_129 : decode cX12_log 129 = .ok (.ireturn, 1) := by decide +kernel
theorem dX12_slice_0 : decode cX12_slice 0 = .ok (.aload_n 0, 1) := by decide +kernel
theorem dX12_slice_1 : decode cX12_slice 1 = .ok (.invokevirtual 48, 3) := by decide +kernel
theorem dX12_slice_4 : decode cX12_slice 4 = .ok (.aload_n 0, 1) := by decide +kernel
theorem dX12_slice_5 : decode cX12_slice 5 = .ok (.aload_n 0, 1) := by decide +kernel
theorem dX12_slice_6 : decode cX12_slice 6 = .ok (.getfield 10, 3) := by decide +kernel
theorem dX12_slice_9 : decode cX12_slice 9 = .ok (.iload_n 1, 1) := by decide +kernel
theorem dX12_slice_10 : decode cX12_slice 10 = .ok (.invokestatic 80, 3) := by decide +kernel
theorem dX12_slice_13 : decode cX12_slice 13 = .ok (.ifCond .ne 7, 3) := by decide +kernel
theorem dX12_slice_16 : decode cX12_slice 16 = .ok (.iconst 1, 1) := by decide +kernel
theorem dX12_slice_17 : decode cX12_slice 17 = .ok (.goto 4, 3) := by decide +kernel
theorem dX12_slice_20 : decode cX12_slice 20 = .ok (.iconst 0, 1) := by decide +kernel
theorem dX12_slice_21 : decode cX12_slice 21 = .ok (.iconst 1, 1) := by decide +kernel
theorem dX12_slice_22 : decode cX12_slice 22 = .ok (.invokevirtual 67, 3) := by decide +kernel
theorem dX12_slice_25 : decode cX12_slice 25 = .ok (.ifCond .ne 63, 3) := by decide +kernel
theorem dX12_slice_28 : decode cX12_slice 28 = .ok (.aload_n 0, 1) := by decide +kernel
theorem dX12_slice_29 : decode cX12_slice 29 = .ok (.ldc 84, 2) := by decide +kernel
theorem dX12_slice_31 : decode cX12_slice 31 = .ok (.iload_n 2, 1) := by decide +kernel
theorem dX12_slice_32 : decode cX12_slice 32 = .ok (.invokevirtual 53, 3) := by decide +kernel
theorem dX12_slice_35 : decode cX12_slice 35 = .ok (.ifCond .lt 17, 3) := by decide +kernel
theorem dX12_slice_38 : decode cX12_slice 38 = .ok (.iload_n 3, 1) := by decide +kernel
theorem dX12_slice_39 : decode cX12_slice 39 = .ok (.i2l, 1) := by decide +kernel
theorem dX12_slice_40 : decode cX12_slice 40 = .ok (.ldc2_w 86, 3) := by decide +kernel
theorem dX12_slice_43 : decode cX12_slice 43 = .ok (.ldc2_w 88, 3) := by decide +kernel
theorem dX12_slice_46 : decode cX12_slice 46 = .ok (.invokestatic 44, 3) := by decide +kernel
theorem dX12_slice_49 : decode cX12_slice 49 = .ok (.ifCond .ne 7, 3) := by decide +kernel
theorem dX12_slice_52 : decode cX12_slice 52 = .ok (.iconst 1, 1) := by decide +kernel
theorem dX12_slice_53 : decode cX12_slice 53 = .ok (.goto 4, 3) := by decide +kernel
theorem dX12_slice_56 : decode cX12_slice 56 = .ok (.iconst 0, 1) := by decide +kernel
theorem dX12_slice_57 : decode cX12_slice 57 = .ok (.iconst 2, 1) := by decide +kernel
theorem dX12_slice_58 : decode cX12_slice 58 = .ok (.invokevirtual 67, 3) := by decide +kernel
theorem dX12_slice_61 : decode cX12_slice 61 = .ok (.ifCond .ne 27, 3) := by decide +kernel
theorem dX12_slice_64 : decode cX12_slice 64 = .ok (.aload_n 0, 1) := by decide +kernel
theorem dX12_slice_65 : decode cX12_slice 65 = .ok (.aload_n 0, 1) := by decide +kernel
theorem dX12_slice_66 : decode cX12_slice 66 = .ok (.getfield 10, 3) := by decide +kernel
theorem dX12_slice_69 : decode cX12_slice 69 = .ok (.iload_n 1, 1) := by decide +kernel
theorem dX12_slice_70 : decode cX12_slice 70 = .ok (.invokeinterface 90 2, 5) := by decide +kernel
theorem dX12_slice_75 : decode cX12_slice 75 = .ok (.checkcast 71, 3) := by decide +kernel
theorem dX12_slice_78 : decode cX12_slice 78 = .ok (.getfield 94, 3) := by decide +kernel
theorem dX12_slice_81 : decode cX12_slice 81 = .ok (.iconst 3, 1) := by decide +kernel
theorem dX12_slice_82 : decode cX12_slice 82 = .ok (.invokevirtual 67, 3) := by decide +kernel
theorem dX12_slice_85 : decode cX12_slice 85 = .ok (.ifCond .eq 5, 3) := by decide +kernel
theorem dX12_slice_88 : decode cX12_slice 88 = .ok (.iconst (-1), 1) := by decide +kernel
theorem dX12_slice_89 : decode cX12_slice 89 = .ok (.ireturn, 1) := by decide +kernel
theorem dX12_slice_90 : decode cX12_slice 90 = .ok (.aload_n 0, 1) := by decide +kernel
theorem dX12_slice_91 : decode cX12_slice 91 = .ok (.getfield 10, 3) := by decide +kernel
theorem dX12_slice_94 : decode cX12_slice 94 = .ok (.iload_n 1, 1) := by decide +kernel
theorem dX12_slice_95 : decode cX12_slice 95 = .ok (.invokeinterface 90 2, 5) := by decide +kernel
theorem dX12_slice_100 : decode cX12_slice 100 = .ok (.checkcast 71, 3) := by decide +kernel
theorem dX12_slice_103 : decode cX12_slice 103 = .ok (.iconst 1, 1) := by decide +kernel
theorem dX12_slice_104 : decode cX12_slice 104 = .ok (.putfield 94, 3) := by decide +kernel
theorem dX12_slice_107 : decode cX12_slice 107 = .ok (.aload_n 0, 1) := by decide +kernel
theorem dX12_slice_108 : decode cX12_slice 108 = .ok (.getfield 16, 3) := by decide +kernel
theorem dX12_slice_111 : decode cX12_slice 111 = .ok (.new 98, 3) := by decide +kernel
theorem dX12_slice_114 : decode cX12_slice 114 = .ok (.dup, 1) := by decide +kernel
theorem dX12_slice_115 : decode cX12_slice 115 = .ok (.aload_n 0, 1) := by decide +kernel
theorem dX12_slice_116 : decode cX12_slice 116 = .ok (.getfield 10, 3) := by decide +kernel
theorem dX12_slice_119 : decode cX12_slice 119 = .ok (.iload_n 1, 1) := by decide +kernel
theorem dX12_slice_120 : decode cX12_slice 120 = .ok (.invokeinterface 90 2, 5) := by decide +kernel
theorem dX12_slice_125 : decode cX12_slice 125 = .ok (.checkcast 71, 3) := by decide +kernel
theorem dX12_slice_128 : decode cX12_slice 128 = .ok (.iload_n 2, 1) := by decide +kernel
theorem dX12_slice_129 : decode cX12_slice 129 = .ok (.iload_n 3, 1) := by decide +kernel
theorem dX12_slice_130 : decode cX12_slice 130 = .ok (.invokespecial 100, 3) := by decide +kernel
theorem dX12_slice_133 : decode cX12_slice 133 = .ok (.invokeinterface 76 2, 5) := by decide +kernel
theorem dX12_slice_138 : decode cX12_slice 138 = .ok (.pop, 1) := by decide +kernel
theorem dX12_slice_139 : decode cX12_slice 139 = .ok (.aload_n 0, 1) := by decide +kernel
theorem dX12_slice_140 : decode cX12_slice 140 = .ok (.getfield 16, 3) := by decide +kernel
theorem dX12_slice_143 : decode cX12_slice 143 = .ok (.invokeinterface 38 1, 5) := by decide +kernel
theorem dX12_slice_148 : decode cX12_slice 148 = .ok (.iconst 1, 1) := by decide +kernel
theorem dX12_slice_149 : decode cX12_slice 149 = .ok (.isub, 1) := by decide +kernel
theorem dX12_slice_150 : decode cX12_slice 150 = .ok (.ireturn, 1) := by decide +kernel
theorem dX12_leaves_0 : decode cX12_leaves 0 = .ok (.aload_n 0, 1) := by decide +kernel
theorem dX12_leaves_1 : decode cX12_leaves 1 = .ok (.invokevirtual 48, 3) := by decide +kernel
theorem dX12_leaves_4 : decode cX12_leaves 4 = .ok (.aload_n 0, 1) := by decide +kernel
theorem dX12_leaves_5 : decode cX12_leaves 5 = .ok (.aload_n 0, 1) := by decide +kernel
theorem dX12_leaves_6 : decode cX12_leaves 6 = .ok (.getfield 16, 3) := by decide +kernel
theorem dX12_leaves_9 : decode cX12_leaves 9 = .ok (.iload_n 1, 1) := by decide +kernel
theorem dX12_leaves_10 : decode cX12_leaves 10 = .ok (.invokestatic 80, 3) := by decide +kernel
theorem dX12_leaves_13 : decode cX12_leaves 13 = .ok (.ifCond .ne 7, 3) := by decide +kernel
theorem dX12_leaves_16 : decode cX12_leaves 16 = .ok (.iconst 1, 1) := by decide +kernel
theorem dX12_leaves_17 : decode cX12_leaves 17 = .ok (.goto 4, 3) := by decide +kernel
theorem dX12_leaves_20 : decode cX12_leaves 20 = .ok (.iconst 0, 1) := by decide +kernel
theorem dX12_leaves_21 : decode cX12_leaves 21 = .ok (.iconst 1, 1) := by decide +kernel
theorem dX12_leaves_22 : decode cX12_leaves 22 = .ok (.invokevirtual 67, 3) := by decide +kernel
theorem dX12_leaves_25 : decode cX12_leaves 25 = .ok (.ifCond .eq 7, 3) := by decide +kernel
theorem dX12_leaves_28 : decode cX12_leaves 28 = .ok (.iconst (-1), 1) := by decide +kernel
theorem dX12_leaves_29 : decode cX12_leaves 29 = .ok (.goto 20, 3) := by decide +kernel
theorem dX12_leaves_32 : decode cX12_leaves 32 = .ok (.aload_n 0, 1) := by decide +kernel
theorem dX12_leaves_33 : decode cX12_leaves 33 = .ok (.getfield 16, 3) := by decide +kernel
theorem dX12_leaves_36 : decode cX12_leaves 36 = .ok (.iload_n 1, 1) := by decide +kernel
theorem dX12_leaves_37 : decode cX12_leaves 37 = .ok (.invokeinterface 90 2, 5) := by decide +kernel
theorem dX12_leaves_42 : decode cX12_leaves 42 = .ok (.checkcast 98, 3) := by decide +kernel
theorem dX12_leaves_45 : decode cX12_leaves 45 = .ok (.getfield 103, 3) := by decide +kernel
theorem dX12_leaves_48 : decode cX12_leaves 48 = .ok (.arraylength, 1) := by decide +kernel
theorem dX12_leaves_49 : decode cX12_leaves 49 = .ok (.ireturn, 1) := by decide +kernel
theorem dX12_isLeaf_0 : decode cX12_isLeaf 0 = .ok (.aload_n 0, 1) := by decide +kernel
theorem dX12_isLeaf_1 : decode cX12_isLeaf 1 = .ok (.getfield 16, 3) := by decide +kernel
theorem dX12_isLeaf_4 : decode cX12_isLeaf 4 = .ok (.iload_n 1, 1) := by decide +kernel
theorem dX12_isLeaf_5 : decode cX12_isLeaf 5 = .ok (.invokestatic 80, 3) := by decide +kernel
theorem dX12_isLeaf_8 : decode cX12_isLeaf 8 = .ok (.ifCond .eq 36, 3) := by decide +kernel
theorem dX12_isLeaf_11 : decode cX12_isLeaf 11 = .ok (.iload_n 2, 1) := by decide +kernel
theorem dX12_isLeaf_12 : decode cX12_isLeaf 12 = .ok (.i2l, 1) := by decide +kernel
theorem dX12_isLeaf_13 : decode cX12_isLeaf 13 = .ok (.lconst 0, 1) := by decide +kernel
theorem dX12_isLeaf_14 : decode cX12_isLeaf 14 = .ok (.aload_n 0, 1) := by decide +kernel
theorem dX12_isLeaf_15 : decode cX12_isLeaf 15 = .ok (.getfield 16, 3) := by decide +kernel
theorem dX12_isLeaf_18 : decode cX12_isLeaf 18 = .ok (.iload_n 1, 1) := by decide +kernel
theorem dX12_isLeaf_19 : decode cX12_isLeaf 19 = .ok (.invokeinterface 90 2, 5) := by decide +kernel
theorem dX12_isLeaf_24 : decode cX12_isLeaf 24 = .ok (.checkcast 98, 3) := by decide +kernel
theorem dX12_isLeaf_27 : decode cX12_isLeaf 27 = .ok (.getfield 103, 3) := by decide +kernel
theorem dX12_isLeaf_30 : decode cX12_isLeaf 30 = .ok (.arraylength, 1) := by decide +kernel
theorem dX12_isLeaf_31 : decode cX12_isLeaf 31 = .ok (.iconst 1, 1) := by decide +kernel
theorem dX12_isLeaf_32 : decode cX12_isLeaf 32 = .ok (.isub, 1) := by decide +kernel
theorem dX12_isLeaf_33 : decode cX12_isLeaf 33 = .ok (.i2l, 1) := by decide +kernel
theorem dX12_isLeaf_34 : decode cX12_isLeaf 34 = .ok (.invokestatic 44, 3) := by decide +kernel
theorem dX12_isLeaf_37 : decode cX12_isLeaf 37 = .ok (.ifCond .eq 7, 3) := by decide +kernel
theorem dX12_isLeaf_40 : decode cX12_isLeaf 40 = .ok (.iconst 1, 1) := by decide +kernel
theorem dX12_isLeaf_41 : decode cX12_isLeaf 41 = .ok (.goto 4, 3) := by decide +kernel
theorem dX12_isLeaf_44 : decode cX12_isLeaf 44 = .ok (.iconst 0, 1) := by decide +kernel
theorem dX12_isLeaf_45 : decode cX12_isLeaf 45 = .ok (.ireturn, 1) := by decide +kernel
theorem dX12_noLeaf_0 : decode cX12_noLeaf 0 = .ok (.aload_n 0, 1) := by decide +kernel
theorem dX12_noLeaf_1 : decode cX12_noLeaf 1 = .ok (.aload_n 0, 1) := by decide +kernel
theorem dX12_noLeaf_2 : decode cX12_noLeaf 2 = .ok (.iload_n 1, 1) := by decide +kernel
theorem dX12_noLeaf_3 : decode cX12_noLeaf 3 = .ok (.iload_n 2, 1) := by decide +kernel
theorem dX12_noLeaf_4 : decode cX12_noLeaf 4 = .ok (.invokevirtual 107, 3) := by decide +kernel
theorem dX12_noLeaf_7 : decode cX12_noLeaf 7 = .ok (.ifCond .ne 7, 3) := by decide +kernel
theorem dX12_noLeaf_10 : decode cX12_noLeaf 10 = .ok (.iconst 1, 1) := by decide +kernel
theorem dX12_noLeaf_11 : decode cX12_noLeaf 11 = .ok (.goto 4, 3) := by decide +kernel
theorem dX12_noLeaf_14 : decode cX12_noLeaf 14 = .ok (.iconst 0, 1) := by decide +kernel
theorem dX12_noLeaf_15 : decode cX12_noLeaf 15 = .ok (.iconst 1, 1) := by decide +kernel
theorem dX12_noLeaf_16 : decode cX12_noLeaf 16 = .ok (.invokevirtual 67, 3) := by decide +kernel
theorem dX12_noLeaf_19 : decode cX12_noLeaf 19 = .ok (.ireturn, 1) := by decide +kernel
theorem dX12_width_0 : decode cX12_width 0 = .ok (.aload_n 0, 1) := by decide +kernel
theorem dX12_width_1 : decode cX12_width 1 = .ok (.invokevirtual 48, 3) := by decide +kernel
theorem dX12_width_4 : decode cX12_width 4 = .ok (.aload_n 0, 1) := by decide +kernel
theorem dX12_width_5 : decode cX12_width 5 = .ok (.iload_n 1, 1) := by decide +kernel
theorem dX12_width_6 : decode cX12_width 6 = .ok (.iload_n 2, 1) := by decide +kernel
theorem dX12_width_7 : decode cX12_width 7 = .ok (.invokevirtual 111, 3) := by decide +kernel
theorem dX12_width_10 : decode cX12_width 10 = .ok (.ifCond .eq 7, 3) := by decide +kernel
theorem dX12_width_13 : decode cX12_width 13 = .ok (.iconst (-1), 1) := by decide +kernel
theorem dX12_width_14 : decode cX12_width 14 = .ok (.goto 20, 3) := by decide +kernel
theorem dX12_width_17 : decode cX12_width 17 = .ok (.aload_n 0, 1) := by decide +kernel
theorem dX12_width_18 : decode cX12_width 18 = .ok (.getfield 16, 3) := by decide +kernel
theorem dX12_width_21 : decode cX12_width 21 = .ok (.iload_n 1, 1) := by decide +kernel
theorem dX12_width_22 : decode cX12_width 22 = .ok (.invokeinterface 90 2, 5) := by decide +kernel
theorem dX12_width_27 : decode cX12_width 27 = .ok (.checkcast 98, 3) := by decide +kernel
theorem dX12_width_30 : decode cX12_width 30 = .ok (.iload_n 2, 1) := by decide +kernel
theorem dX12_width_31 : decode cX12_width 31 = .ok (.invokevirtual 114, 3) := by decide +kernel
theorem dX12_width_34 : decode cX12_width 34 = .ok (.ireturn, 1) := by decide +kernel
theorem dX12_area_0 : decode cX12_area 0 = .ok (.aload_n 0, 1) := by decide +kernel
theorem dX12_area_1 : decode cX12_area 1 = .ok (.invokevirtual 48, 3) := by decide +kernel
theorem dX12_area_4 : decode cX12_area 4 = .ok (.aload_n 0, 1) := by decide +kernel
theorem dX12_area_5 : decode cX12_area 5 = .ok (.iload_n 1, 1) := by decide +kernel
theorem dX12_area_6 : decode cX12_area 6 = .ok (.iload_n 2, 1) := by decide +kernel
theorem dX12_area_7 : decode cX12_area 7 = .ok (.invokevirtual 111, 3) := by decide +kernel
theorem dX12_area_10 : decode cX12_area 10 = .ok (.ifCond .eq 7, 3) := by decide +kernel
theorem dX12_area_13 : decode cX12_area 13 = .ok (.iconst (-1), 1) := by decide +kernel
theorem dX12_area_14 : decode cX12_area 14 = .ok (.goto 20, 3) := by decide +kernel
theorem dX12_area_17 : decode cX12_area 17 = .ok (.aload_n 0, 1) := by decide +kernel
theorem dX12_area_18 : decode cX12_area 18 = .ok (.getfield 16, 3) := by decide +kernel
theorem dX12_area_21 : decode cX12_area 21 = .ok (.iload_n 1, 1) := by decide +kernel
theorem dX12_area_22 : decode cX12_area 22 = .ok (.invokeinterface 90 2, 5) := by decide +kernel
theorem dX12_area_27 : decode cX12_area 27 = .ok (.checkcast 98, 3) := by decide +kernel
theorem dX12_area_30 : decode cX12_area 30 = .ok (.iload_n 2, 1) := by decide +kernel
theorem dX12_area_31 : decode cX12_area 31 = .ok (.invokevirtual 117, 3) := by decide +kernel
theorem dX12_area_34 : decode cX12_area 34 = .ok (.ireturn, 1) := by decide +kernel
theorem dX12_figure_0 : decode cX12_figure 0 = .ok (.aload_n 0, 1) := by decide +kernel
theorem dX12_figure_1 : decode cX12_figure 1 = .ok (.invokevirtual 48, 3) := by decide +kernel
theorem dX12_figure_4 : decode cX12_figure 4 = .ok (.aload_n 0, 1) := by decide +kernel
theorem dX12_figure_5 : decode cX12_figure 5 = .ok (.iload_n 1, 1) := by decide +kernel
theorem dX12_figure_6 : decode cX12_figure 6 = .ok (.iload_n 2, 1) := by decide +kernel
theorem dX12_figure_7 : decode cX12_figure 7 = .ok (.invokevirtual 111, 3) := by decide +kernel
theorem dX12_figure_10 : decode cX12_figure 10 = .ok (.ifCond .eq 7, 3) := by decide +kernel
theorem dX12_figure_13 : decode cX12_figure 13 = .ok (.iconst (-1), 1) := by decide +kernel
theorem dX12_figure_14 : decode cX12_figure 14 = .ok (.goto 20, 3) := by decide +kernel
theorem dX12_figure_17 : decode cX12_figure 17 = .ok (.aload_n 0, 1) := by decide +kernel
theorem dX12_figure_18 : decode cX12_figure 18 = .ok (.getfield 16, 3) := by decide +kernel
theorem dX12_figure_21 : decode cX12_figure 21 = .ok (.iload_n 1, 1) := by decide +kernel
theorem dX12_figure_22 : decode cX12_figure 22 = .ok (.invokeinterface 90 2, 5) := by decide +kernel
theorem dX12_figure_27 : decode cX12_figure 27 = .ok (.checkcast 98, 3) := by decide +kernel
theorem dX12_figure_30 : decode cX12_figure 30 = .ok (.iload_n 2, 1) := by decide +kernel
theorem dX12_figure_31 : decode cX12_figure 31 = .ok (.invokevirtual 120, 3) := by decide +kernel
theorem dX12_figure_34 : decode cX12_figure 34 = .ok (.ireturn, 1) := by decide +kernel
theorem dX12_isUsed_0 : decode cX12_isUsed 0 = .ok (.aload_n 0, 1) := by decide +kernel
theorem dX12_isUsed_1 : decode cX12_isUsed 1 = .ok (.invokevirtual 48, 3) := by decide +kernel
theorem dX12_isUsed_4 : decode cX12_isUsed 4 = .ok (.aload_n 0, 1) := by decide +kernel
theorem dX12_isUsed_5 : decode cX12_isUsed 5 = .ok (.iload_n 1, 1) := by decide +kernel
theorem dX12_isUsed_6 : decode cX12_isUsed 6 = .ok (.iload_n 2, 1) := by decide +kernel
theorem dX12_isUsed_7 : decode cX12_isUsed 7 = .ok (.invokevirtual 111, 3) := by decide +kernel
theorem dX12_isUsed_10 : decode cX12_isUsed 10 = .ok (.ifCond .ne 28, 3) := by decide +kernel
theorem dX12_isUsed_13 : decode cX12_isUsed 13 = .ok (.aload_n 0, 1) := by decide +kernel
theorem dX12_isUsed_14 : decode cX12_isUsed 14 = .ok (.getfield 16, 3) := by decide +kernel
theorem dX12_isUsed_17 : decode cX12_isUsed 17 = .ok (.iload_n 1, 1) := by decide +kernel
theorem dX12_isUsed_18 : decode cX12_isUsed 18 = .ok (.invokeinterface 90 2, 5) := by decide +kernel
theorem dX12_isUsed_23 : decode cX12_isUsed 23 = .ok (.checkcast 98, 3) := by decide +kernel
theorem dX12_isUsed_26 : decode cX12_isUsed 26 = .ok (.getfield 103, 3) := by decide +kernel
theorem dX12_isUsed_29 : decode cX12_isUsed 29 = .ok (.iload_n 2, 1) := by decide +kernel
theorem dX12_isUsed_30 : decode cX12_isUsed 30 = .ok (.baload, 1) := by decide +kernel
theorem dX12_isUsed_31 : decode cX12_isUsed 31 = .ok (.ifCond .eq 7, 3) := by decide +kernel
theorem dX12_isUsed_34 : decode cX12_isUsed 34 = .ok (.iconst 1, 1) := by decide +kernel
theorem dX12_isUsed_35 : decode cX12_isUsed 35 = .ok (.goto 4, 3) := by decide +kernel
theorem dX12_isUsed_38 : decode cX12_isUsed 38 = .ok (.iconst 0, 1) := by decide +kernel
theorem dX12_isUsed_39 : decode cX12_isUsed 39 = .ok (.ireturn, 1) := by decide +kernel
theorem dX12_panel_0 : decode cX12_panel 0 = .ok (.aload_n 0, 1) := by decide +kernel
theorem dX12_panel_1 : decode cX12_panel 1 = .ok (.invokevirtual 48, 3) := by decide +kernel
theorem dX12_panel_4 : decode cX12_panel 4 = .ok (.aload_n 0, 1) := by decide +kernel
theorem dX12_panel_5 : decode cX12_panel 5 = .ok (.iload_n 1, 1) := by decide +kernel
theorem dX12_panel_6 : decode cX12_panel 6 = .ok (.i2l, 1) := by decide +kernel
theorem dX12_panel_7 : decode cX12_panel 7 = .ok (.ldc2_w 59, 3) := by decide +kernel
theorem dX12_panel_10 : decode cX12_panel 10 = .ok (.ldc2_w 123, 3) := by decide +kernel
theorem dX12_panel_13 : decode cX12_panel 13 = .ok (.invokestatic 44, 3) := by decide +kernel
theorem dX12_panel_16 : decode cX12_panel 16 = .ok (.ifCond .eq 39, 3) := by decide +kernel
theorem dX12_panel_19 : decode cX12_panel 19 = .ok (.iload_n 2, 1) := by decide +kernel
theorem dX12_panel_20 : decode cX12_panel 20 = .ok (.i2l, 1) := by decide +kernel
theorem dX12_panel_21 : decode cX12_panel 21 = .ok (.lconst 1, 1) := by decide +kernel
theorem dX12_panel_22 : decode cX12_panel 22 = .ok (.ldc2_w 125, 3) := by decide +kernel
theorem dX12_panel_25 : decode cX12_panel 25 = .ok (.invokestatic 44, 3) := by decide +kernel
theorem dX12_panel_28 : decode cX12_panel 28 = .ok (.ifCond .eq 27, 3) := by decide +kernel
theorem dX12_panel_31 : decode cX12_panel 31 = .ok (.ldc 127, 2) := by decide +kernel
theorem dX12_panel_33 : decode cX12_panel 33 = .ok (.iload_n 3, 1) := by decide +kernel
theorem dX12_panel_34 : decode cX12_panel 34 = .ok (.invokevirtual 53, 3) := by decide +kernel
theorem dX12_panel_37 : decode cX12_panel 37 = .ok (.ifCond .lt 18, 3) := by decide +kernel
theorem dX12_panel_40 : decode cX12_panel 40 = .ok (.iload 4, 2) := by decide +kernel
theorem dX12_panel_42 : decode cX12_panel 42 = .ok (.i2l, 1) := by decide +kernel
theorem dX12_panel_43 : decode cX12_panel 43 = .ok (.ldc2_w 86, 3) := by decide +kernel
theorem dX12_panel_46 : decode cX12_panel 46 = .ok (.ldc2_w 63, 3) := by decide +kernel
theorem dX12_panel_49 : decode cX12_panel 49 = .ok (.invokestatic 44, 3) := by decide +kernel
theorem dX12_panel_52 : decode cX12_panel 52 = .ok (.ifCond .ne 7, 3) := by decide +kernel
theorem dX12_panel_55 : decode cX12_panel 55 = .ok (.iconst 1, 1) := by decide +kernel
theorem dX12_panel_56 : decode cX12_panel 56 = .ok (.goto 4, 3) := by decide +kernel
theorem dX12_panel_59 : decode cX12_panel 59 = .ok (.iconst 0, 1) := by decide +kernel
theorem dX12_panel_60 : decode cX12_panel 60 = .ok (.iconst 1, 1) := by decide +kernel
theorem dX12_panel_61 : decode cX12_panel 61 = .ok (.invokevirtual 67, 3) := by decide +kernel
theorem dX12_panel_64 : decode cX12_panel 64 = .ok (.ifCond .ne 30, 3) := by decide +kernel
theorem dX12_panel_67 : decode cX12_panel 67 = .ok (.aload_n 0, 1) := by decide +kernel
theorem dX12_panel_68 : decode cX12_panel 68 = .ok (.aload_n 0, 1) := by decide +kernel
theorem dX12_panel_69 : decode cX12_panel 69 = .ok (.getfield 19, 3) := by decide +kernel
theorem dX12_panel_72 : decode cX12_panel 72 = .ok (.invokeinterface 38 1, 5) := by decide +kernel
theorem dX12_panel_77 : decode cX12_panel 77 = .ok (.bipush 8, 2) := by decide +kernel
theorem dX12_panel_79 : decode cX12_panel 79 = .ok (.if_icmp .ne 7, 3) := by decide +kernel
theorem dX12_panel_82 : decode cX12_panel 82 = .ok (.iconst 1, 1) := by decide +kernel
theorem dX12_panel_83 : decode cX12_panel 83 = .ok (.goto 4, 3) := by decide +kernel
theorem dX12_panel_86 : decode cX12_panel 86 = .ok (.iconst 0, 1) := by decide +kernel
theorem dX12_panel_87 : decode cX12_panel 87 = .ok (.iconst 2, 1) := by decide +kernel
theorem dX12_panel_88 : decode cX12_panel 88 = .ok (.invokevirtual 67, 3) := by decide +kernel
theorem dX12_panel_91 : decode cX12_panel 91 = .ok (.ifCond .eq 5, 3) := by decide +kernel
theorem dX12_panel_94 : decode cX12_panel 94 = .ok (.iconst (-1), 1) := by decide +kernel
theorem dX12_panel_95 : decode cX12_panel 95 = .ok (.ireturn, 1) := by decide +kernel
theorem dX12_panel_96 : decode cX12_panel 96 = .ok (.aload_n 0, 1) := by decide +kernel
theorem dX12_panel_97 : decode cX12_panel 97 = .ok (.getfield 19, 3) := by decide +kernel
theorem dX12_panel_100 : decode cX12_panel 100 = .ok (.new 129, 3) := by decide +kernel
theorem dX12_panel_103 : decode cX12_panel 103 = .ok (.dup, 1) := by decide +kernel
theorem dX12_panel_104 : decode cX12_panel 104 = .ok (.iload_n 1, 1) := by decide +kernel
theorem dX12_panel_105 : decode cX12_panel 105 = .ok (.iload_n 2, 1) := by decide +kernel
theorem dX12_panel_106 : decode cX12_panel 106 = .ok (.iload 4, 2) := by decide +kernel
theorem dX12_panel_108 : decode cX12_panel 108 = .ok (.iload_n 3, 1) := by decide +kernel
theorem dX12_panel_109 : decode cX12_panel 109 = .ok (.bipush 115, 2) := by decide +kernel
theorem dX12_panel_111 : decode cX12_panel 111 = .ok (.if_icmp .ne 7, 3) := by decide +kernel
theorem dX12_panel_114 : decode cX12_panel 114 = .ok (.iconst 1, 1) := by decide +kernel
theorem dX12_panel_115 : decode cX12_panel 115 = .ok (.goto 14, 3) := by decide +kernel
theorem dX12_panel_118 : decode cX12_panel 118 = .ok (.iload_n 3, 1) := by decide +kernel
theorem dX12_panel_119 : decode cX12_panel 119 = .ok (.bipush 99, 2) := by decide +kernel
theorem dX12_panel_121 : decode cX12_panel 121 = .ok (.if_icmp .ne 7, 3) := by decide +kernel
theorem dX12_panel_124 : decode cX12_panel 124 = .ok (.iconst 3, 1) := by decide +kernel
theorem dX12_panel_125 : decode cX12_panel 125 = .ok (.goto 4, 3) := by decide +kernel
theorem dX12_panel_128 : decode cX12_panel 128 = .ok (.iconst 2, 1) := by decide +kernel
theorem dX12_panel_129 : decode cX12_panel 129 = .ok (.imul, 1) := by decide +kernel
theorem dX12_panel_130 : decode cX12_panel 130 = .ok (.invokespecial 131, 3) := by decide +kernel
theorem dX12_panel_133 : decode cX12_panel 133 = .ok (.invokeinterface 76 2, 5) := by decide +kernel
theorem dX12_panel_138 : decode cX12_panel 138 = .ok (.pop, 1) := by decide +kernel
theorem dX12_panel_139 : decode cX12_panel 139 = .ok (.aload_n 0, 1) := by decide +kernel
theorem dX12_panel_140 : decode cX12_panel 140 = .ok (.getfield 22, 3) := by decide +kernel
theorem dX12_panel_143 : decode cX12_panel 143 = .ok (.iload 4, 2) := by decide +kernel
theorem dX12_panel_145 : decode cX12_panel 145 = .ok (.invokestatic 134, 3) := by decide +kernel
theorem dX12_panel_148 : decode cX12_panel 148 = .ok (.invokeinterface 76 2, 5) := by decide +kernel
theorem dX12_panel_153 : decode cX12_panel 153 = .ok (.pop, 1) := by decide +kernel
theorem dX12_panel_154 : decode cX12_panel 154 = .ok (.aload_n 0, 1) := by decide +kernel
theorem dX12_panel_155 : decode cX12_panel 155 = .ok (.getfield 19, 3) := by decide +kernel
theorem dX12_panel_158 : decode cX12_panel 158 = .ok (.invokeinterface 38 1, 5) := by decide +kernel
theorem dX12_panel_163 : decode cX12_panel 163 = .ok (.iconst 1, 1) := by decide +kernel
theorem dX12_panel_164 : decode cX12_panel 164 = .ok (.isub, 1) := by decide +kernel
theorem dX12_panel_165 : decode cX12_panel 165 = .ok (.ireturn, 1) := by decide +kernel
theorem dX12_noPanel_0 : decode cX12_noPanel 0 = .ok (.aload_n 0, 1) := by decide +kernel
theorem dX12_noPanel_1 : decode cX12_noPanel 1 = .ok (.aload_n 0, 1) := by decide +kernel
theorem dX12_noPanel_2 : decode cX12_noPanel 2 = .ok (.getfield 19, 3) := by decide +kernel
theorem dX12_noPanel_5 : decode cX12_noPanel 5 = .ok (.iload_n 1, 1) := by decide +kernel
theorem dX12_noPanel_6 : decode cX12_noPanel 6 = .ok (.invokestatic 80, 3) := by decide +kernel
theorem dX12_noPanel_9 : decode cX12_noPanel 9 = .ok (.ifCond .ne 7, 3) := by decide +kernel
theorem dX12_noPanel_12 : decode cX12_noPanel 12 = .ok (.iconst 1, 1) := by decide +kernel
theorem dX12_noPanel_13 : decode cX12_noPanel 13 = .ok (.goto 4, 3) := by decide +kernel
theorem dX12_noPanel_16 : decode cX12_noPanel 16 = .ok (.iconst 0, 1) := by decide +kernel
theorem dX12_noPanel_17 : decode cX12_noPanel 17 = .ok (.iconst 1, 1) := by decide +kernel
theorem dX12_noPanel_18 : decode cX12_noPanel 18 = .ok (.invokevirtual 67, 3) := by decide +kernel
theorem dX12_noPanel_21 : decode cX12_noPanel 21 = .ok (.ireturn, 1) := by decide +kernel
theorem dX12_noRow_0 : decode cX12_noRow 0 = .ok (.aload_n 0, 1) := by decide +kernel
theorem dX12_noRow_1 : decode cX12_noRow 1 = .ok (.aload_n 0, 1) := by decide +kernel
theorem dX12_noRow_2 : decode cX12_noRow 2 = .ok (.iload_n 1, 1) := by decide +kernel
theorem dX12_noRow_3 : decode cX12_noRow 3 = .ok (.iload_n 2, 1) := by decide +kernel
theorem dX12_noRow_4 : decode cX12_noRow 4 = .ok (.invokevirtual 107, 3) := by decide +kernel
theorem dX12_noRow_7 : decode cX12_noRow 7 = .ok (.ifCond .eq 35, 3) := by decide +kernel
theorem dX12_noRow_10 : decode cX12_noRow 10 = .ok (.iload_n 3, 1) := by decide +kernel
theorem dX12_noRow_11 : decode cX12_noRow 11 = .ok (.iconst 1, 1) := by decide +kernel
theorem dX12_noRow_12 : decode cX12_noRow 12 = .ok (.if_icmp .le 34, 3) := by decide +kernel
theorem dX12_noRow_15 : decode cX12_noRow 15 = .ok (.iload_n 2, 1) := by decide +kernel
theorem dX12_noRow_16 : decode cX12_noRow 16 = .ok (.i2l, 1) := by decide +kernel
theorem dX12_noRow_17 : decode cX12_noRow 17 = .ok (.iload_n 3, 1) := by decide +kernel
theorem dX12_noRow_18 : decode cX12_noRow 18 = .ok (.i2l, 1) := by decide +kernel
theorem dX12_noRow_19 : decode cX12_noRow 19 = .ok (.ladd, 1) := by decide +kernel
theorem dX12_noRow_20 : decode cX12_noRow 20 = .ok (.aload_n 0, 1) := by decide +kernel
theorem dX12_noRow_21 : decode cX12_noRow 21 = .ok (.getfield 16, 3) := by decide +kernel
theorem dX12_noRow_24 : decode cX12_noRow 24 = .ok (.iload_n 1, 1) := by decide +kernel
theorem dX12_noRow_25 : decode cX12_noRow 25 = .ok (.invokeinterface 90 2, 5) := by decide +kernel
theorem dX12_noRow_30 : decode cX12_noRow 30 = .ok (.checkcast 98, 3) := by decide +kernel
theorem dX12_noRow_33 : decode cX12_noRow 33 = .ok (.getfield 103, 3) := by decide +kernel
theorem dX12_noRow_36 : decode cX12_noRow 36 = .ok (.arraylength, 1) := by decide +kernel
theorem dX12_noRow_37 : decode cX12_noRow 37 = .ok (.i2l, 1) := by decide +kernel
theorem dX12_noRow_38 : decode cX12_noRow 38 = .ok (.lcmp, 1) := by decide +kernel
theorem dX12_noRow_39 : decode cX12_noRow 39 = .ok (.ifCond .le 7, 3) := by decide +kernel
theorem dX12_noRow_42 : decode cX12_noRow 42 = .ok (.iconst 1, 1) := by decide +kernel
theorem dX12_noRow_43 : decode cX12_noRow 43 = .ok (.goto 4, 3) := by decide +kernel
theorem dX12_noRow_46 : decode cX12_noRow 46 = .ok (.iconst 0, 1) := by decide +kernel
theorem dX12_noRow_47 : decode cX12_noRow 47 = .ok (.iconst 1, 1) := by decide +kernel
theorem dX12_noRow_48 : decode cX12_noRow 48 = .ok (.invokevirtual 67, 3) := by decide +kernel
theorem dX12_noRow_51 : decode cX12_noRow 51 = .ok (.ireturn, 1) := by decide +kernel
theorem dX12_strip_0 : decode cX12_strip 0 = .ok (.aload_n 0, 1) := by decide +kernel
theorem dX12_strip_1 : decode cX12_strip 1 = .ok (.getfield 140, 3) := by decide +kernel
theorem dX12_strip_4 : decode cX12_strip 4 = .ok (.iload_n 1, 1) := by decide +kernel
theorem dX12_strip_5 : decode cX12_strip 5 = .ok (.iadd, 1) := by decide +kernel
theorem dX12_strip_6 : decode cX12_strip 6 = .ok (.iconst 1, 1) := by decide +kernel
theorem dX12_strip_7 : decode cX12_strip 7 = .ok (.isub, 1) := by decide +kernel
theorem dX12_strip_8 : decode cX12_strip 8 = .ok (.iload_n 1, 1) := by decide +kernel
theorem dX12_strip_9 : decode cX12_strip 9 = .ok (.idiv, 1) := by decide +kernel
theorem dX12_strip_10 : decode cX12_strip 10 = .ok (.ireturn, 1) := by decide +kernel
theorem dX12_canLie_0 : decode cX12_canLie 0 = .ok (.aload_n 1, 1) := by decide +kernel
theorem dX12_canLie_1 : decode cX12_canLie 1 = .ok (.getfield 142, 3) := by decide +kernel
theorem dX12_canLie_4 : decode cX12_canLie 4 = .ok (.getfield 146, 3) := by decide +kernel
theorem dX12_canLie_7 : decode cX12_canLie 7 = .ok (.aload_n 0, 1) := by decide +kernel
theorem dX12_canLie_8 : decode cX12_canLie 8 = .ok (.getfield 149, 3) := by decide +kernel
theorem dX12_canLie_11 : decode cX12_canLie 11 = .ok (.if_icmp .lt 7, 3) := by decide +kernel
theorem dX12_canLie_14 : decode cX12_canLie 14 = .ok (.iconst 1, 1) := by decide +kernel
theorem dX12_canLie_15 : decode cX12_canLie 15 = .ok (.goto 4, 3) := by decide +kernel
theorem dX12_canLie_18 : decode cX12_canLie 18 = .ok (.iconst 0, 1) := by decide +kernel
theorem dX12_canLie_19 : decode cX12_canLie 19 = .ok (.istore 4, 2) := by decide +kernel
theorem dX12_canLie_21 : decode cX12_canLie 21 = .ok (.iload_n 2, 1) := by decide +kernel
theorem dX12_canLie_22 : decode cX12_canLie 22 = .ok (.istore 5, 2) := by decide +kernel
theorem dX12_canLie_24 : decode cX12_canLie 24 = .ok (.iload 5, 2) := by decide +kernel
theorem dX12_canLie_26 : decode cX12_canLie 26 = .ok (.iload_n 2, 1) := by decide +kernel
theorem dX12_canLie_27 : decode cX12_canLie 27 = .ok (.iload_n 3, 1) := by decide +kernel
theorem dX12_canLie_28 : decode cX12_canLie 28 = .ok (.iadd, 1) := by decide +kernel
theorem dX12_canLie_29 : decode cX12_canLie 29 = .ok (.if_icmp .ge 45, 3) := by decide +kernel
theorem dX12_canLie_32 : decode cX12_canLie 32 = .ok (.iload 4, 2) := by decide +kernel
theorem dX12_canLie_34 : decode cX12_canLie 34 = .ok (.ifCond .eq 31, 3) := by decide +kernel
theorem dX12_canLie_37 : decode cX12_canLie 37 = .ok (.aload_n 1, 1) := by decide +kernel
theorem dX12_canLie_38 : decode cX12_canLie 38 = .ok (.getfield 103, 3) := by decide +kernel
theorem dX12_canLie_41 : decode cX12_canLie 41 = .ok (.iload 5, 2) := by decide +kernel
theorem dX12_canLie_43 : decode cX12_canLie 43 = .ok (.baload, 1) := by decide +kernel
theorem dX12_canLie_44 : decode cX12_canLie 44 = .ok (.ifCond .ne 21, 3) := by decide +kernel
theorem dX12_canLie_47 : decode cX12_canLie 47 = .ok (.aload_n 1, 1) := by decide +kernel
theorem dX12_canLie_48 : decode cX12_canLie 48 = .ok (.iload 5, 2) := by decide +kernel
theorem dX12_canLie_50 : decode cX12_canLie 50 = .ok (.invokevirtual 114, 3) := by decide +kernel
theorem dX12_canLie_53 : decode cX12_canLie 53 = .ok (.aload_n 0, 1) := by decide +kernel
theorem dX12_canLie_54 : decode cX12_canLie 54 = .ok (.iload_n 3, 1) := by decide +kernel
theorem dX12_canLie_55 : decode cX12_canLie 55 = .ok (.invokestatic 152, 3) := by decide +kernel
theorem dX12_canLie_58 : decode cX12_canLie 58 = .ok (.if_icmp .lt 7, 3) := by decide +kernel
theorem dX12_canLie_61 : decode cX12_canLie 61 = .ok (.iconst 1, 1) := by decide +kernel
theorem dX12_canLie_62 : decode cX12_canLie 62 = .ok (.goto 4, 3) := by decide +kernel
theorem dX12_canLie_65 : decode cX12_canLie 65 = .ok (.iconst 0, 1) := by decide +kernel
theorem dX12_canLie_66 : decode cX12_canLie 66 = .ok (.istore 4, 2) := by decide +kernel
theorem dX12_canLie_68 : decode cX12_canLie 68 = .ok (.iinc 5 1, 3) := by decide +kernel
theorem dX12_canLie_71 : decode cX12_canLie 71 = .ok (.goto (-47), 3) := by decide +kernel
theorem dX12_canLie_74 : decode cX12_canLie 74 = .ok (.iload 4, 2) := by decide +kernel
theorem dX12_canLie_76 : decode cX12_canLie 76 = .ok (.ireturn, 1) := by decide +kernel
theorem dX12_lays_0 : decode cX12_lays 0 = .ok (.aload_n 1, 1) := by decide +kernel
theorem dX12_lays_1 : decode cX12_lays 1 = .ok (.getfield 140, 3) := by decide +kernel
theorem dX12_lays_4 : decode cX12_lays 4 = .ok (.ineg, 1) := by decide +kernel
theorem dX12_lays_5 : decode cX12_lays 5 = .ok (.aload_n 1, 1) := by decide +kernel
theorem dX12_lays_6 : decode cX12_lays 6 = .ok (.getfield 149, 3) := by decide +kernel
theorem dX12_lays_9 : decode cX12_lays 9 = .ok (.imul, 1) := by decide +kernel
theorem dX12_lays_10 : decode cX12_lays 10 = .ok (.istore_n 3, 1) := by decide +kernel
theorem dX12_lays_11 : decode cX12_lays 11 = .ok (.aload_n 2, 1) := by decide +kernel
theorem dX12_lays_12 : decode cX12_lays 12 = .ok (.getfield 156, 3) := by decide +kernel
theorem dX12_lays_15 : decode cX12_lays 15 = .ok (.istore 4, 2) := by decide +kernel
theorem dX12_lays_17 : decode cX12_lays 17 = .ok (.iload 4, 2) := by decide +kernel
theorem dX12_lays_19 : decode cX12_lays 19 = .ok (.aload_n 2, 1) := by decide +kernel
theorem dX12_lays_20 : decode cX12_lays 20 = .ok (.getfield 156, 3) := by decide +kernel
theorem dX12_lays_23 : decode cX12_lays 23 = .ok (.aload_n 2, 1) := by decide +kernel
theorem dX12_lays_24 : decode cX12_lays 24 = .ok (.getfield 161, 3) := by decide +kernel
theorem dX12_lays_27 : decode cX12_lays 27 = .ok (.iadd, 1) := by decide +kernel
theorem dX12_lays_28 : decode cX12_lays 28 = .ok (.if_icmp .ge 94, 3) := by decide +kernel
theorem dX12_lays_31 : decode cX12_lays 31 = .ok (.aload_n 2, 1) := by decide +kernel
theorem dX12_lays_32 : decode cX12_lays 32 = .ok (.getfield 164, 3) := by decide +kernel
theorem dX12_lays_35 : decode cX12_lays 35 = .ok (.getfield 103, 3) := by decide +kernel
theorem dX12_lays_38 : decode cX12_lays 38 = .ok (.iload 4, 2) := by decide +kernel
theorem dX12_lays_40 : decode cX12_lays 40 = .ok (.iconst 1, 1) := by decide +kernel
theorem dX12_lays_41 : decode cX12_lays 41 = .ok (.bastore, 1) := by decide +kernel
theorem dX12_lays_42 : decode cX12_lays 42 = .ok (.iload_n 3, 1) := by decide +kernel
theorem dX12_lays_43 : decode cX12_lays 43 = .ok (.aload_n 2, 1) := by decide +kernel
theorem dX12_lays_44 : decode cX12_lays 44 = .ok (.getfield 164, 3) := by decide +kernel
theorem dX12_lays_47 : decode cX12_lays 47 = .ok (.iload 4, 2) := by decide +kernel
theorem dX12_lays_49 : decode cX12_lays 49 = .ok (.invokevirtual 117, 3) := by decide +kernel
theorem dX12_lays_52 : decode cX12_lays 52 = .ok (.iadd, 1) := by decide +kernel
theorem dX12_lays_53 : decode cX12_lays 53 = .ok (.istore_n 3, 1) := by decide +kernel
theorem dX12_lays_54 : decode cX12_lays 54 = .ok (.aload_n 2, 1) := by decide +kernel
theorem dX12_lays_55 : decode cX12_lays 55 = .ok (.getfield 164, 3) := by decide +kernel
theorem dX12_lays_58 : decode cX12_lays 58 = .ok (.iload 4, 2) := by decide +kernel
theorem dX12_lays_60 : decode cX12_lays 60 = .ok (.invokevirtual 114, 3) := by decide +kernel
theorem dX12_lays_63 : decode cX12_lays 63 = .ok (.aload_n 1, 1) := by decide +kernel
theorem dX12_lays_64 : decode cX12_lays 64 = .ok (.aload_n 2, 1) := by decide +kernel
theorem dX12_lays_65 : decode cX12_lays 65 = .ok (.getfield 161, 3) := by decide +kernel
theorem dX12_lays_68 : decode cX12_lays 68 = .ok (.invokestatic 152, 3) := by decide +kernel
theorem dX12_lays_71 : decode cX12_lays 71 = .ok (.isub, 1) := by decide +kernel
theorem dX12_lays_72 : decode cX12_lays 72 = .ok (.istore 5, 2) := by decide +kernel
theorem dX12_lays_74 : decode cX12_lays 74 = .ok (.iload 5, 2) := by decide +kernel
theorem dX12_lays_76 : decode cX12_lays 76 = .ok (.bipush 50, 2) := by decide +kernel
theorem dX12_lays_78 : decode cX12_lays 78 = .ok (.if_icmp .lt 38, 3) := by decide +kernel
theorem dX12_lays_81 : decode cX12_lays 81 = .ok (.aload_n 0, 1) := by decide +kernel
theorem dX12_lays_82 : decode cX12_lays 82 = .ok (.getfield 25, 3) := by decide +kernel
theorem dX12_lays_85 : decode cX12_lays 85 = .ok (.iconst 2, 1) := by decide +kernel
theorem dX12_lays_86 : decode cX12_lays 86 = .ok (.newarray .int, 2) := by decide +kernel
theorem dX12_lays_88 : decode cX12_lays 88 = .ok (.dup, 1) := by decide +kernel
theorem dX12_lays_89 : decode cX12_lays 89 = .ok (.iconst 0, 1) := by decide +kernel
theorem dX12_lays_90 : decode cX12_lays 90 = .ok (.iload 5, 2) := by decide +kernel
theorem dX12_lays_92 : decode cX12_lays 92 = .ok (.iastore, 1) := by decide +kernel
theorem dX12_lays_93 : decode cX12_lays 93 = .ok (.dup, 1) := by decide +kernel
theorem dX12_lays_94 : decode cX12_lays 94 = .ok (.iconst 1, 1) := by decide +kernel
theorem dX12_lays_95 : decode cX12_lays 95 = .ok (.aload_n 1, 1) := by decide +kernel
theorem dX12_lays_96 : decode cX12_lays 96 = .ok (.getfield 149, 3) := by decide +kernel
theorem dX12_lays_99 : decode cX12_lays 99 = .ok (.iastore, 1) := by decide +kernel
theorem dX12_lays_100 : decode cX12_lays 100 = .ok (.invokeinterface 76 2, 5) := by decide +kernel
theorem dX12_lays_105 : decode cX12_lays 105 = .ok (.pop, 1) := by decide +kernel
theorem dX12_lays_106 : decode cX12_lays 106 = .ok (.iload_n 3, 1) := by decide +kernel
theorem dX12_lays_107 : decode cX12_lays 107 = .ok (.iload 5, 2) := by decide +kernel
theorem dX12_lays_109 : decode cX12_lays 109 = .ok (.aload_n 1, 1) := by decide +kernel
theorem dX12_lays_110 : decode cX12_lays 110 = .ok (.getfield 149, 3) := by decide +kernel
theorem dX12_lays_113 : decode cX12_lays 113 = .ok (.imul, 1) := by decide +kernel
theorem dX12_lays_114 : decode cX12_lays 114 = .ok (.isub, 1) := by decide +kernel
theorem dX12_lays_115 : decode cX12_lays 115 = .ok (.istore_n 3, 1) := by decide +kernel
theorem dX12_lays_116 : decode cX12_lays 116 = .ok (.iinc 4 1, 3) := by decide +kernel
theorem dX12_lays_119 : decode cX12_lays 119 = .ok (.goto (-102), 3) := by decide +kernel
theorem dX12_lays_122 : decode cX12_lays 122 = .ok (.aload_n 0, 1) := by decide +kernel
theorem dX12_lays_123 : decode cX12_lays 123 = .ok (.dup, 1) := by decide +kernel
theorem dX12_lays_124 : decode cX12_lays 124 = .ok (.getfield 168, 3) := by decide +kernel
theorem dX12_lays_127 : decode cX12_lays 127 = .ok (.iload_n 3, 1) := by decide +kernel
theorem dX12_lays_128 : decode cX12_lays 128 = .ok (.iadd, 1) := by decide +kernel
theorem dX12_lays_129 : decode cX12_lays 129 = .ok (.putfield 168, 3) := by decide +kernel
theorem dX12_lays_132 : decode cX12_lays 132 = .ok (.iload_n 3, 1) := by decide +kernel
theorem dX12_lays_133 : decode cX12_lays 133 = .ok (.ireturn, 1) := by decide +kernel
theorem dX12_face_0 : decode cX12_face 0 = .ok (.aload_n 0, 1) := by decide +kernel
theorem dX12_face_1 : decode cX12_face 1 = .ok (.invokevirtual 48, 3) := by decide +kernel
theorem dX12_face_4 : decode cX12_face 4 = .ok (.aload_n 0, 1) := by decide +kernel
theorem dX12_face_5 : decode cX12_face 5 = .ok (.iload_n 1, 1) := by decide +kernel
theorem dX12_face_6 : decode cX12_face 6 = .ok (.invokevirtual 171, 3) := by decide +kernel
theorem dX12_face_9 : decode cX12_face 9 = .ok (.ifCond .ne 50, 3) := by decide +kernel
theorem dX12_face_12 : decode cX12_face 12 = .ok (.aload_n 0, 1) := by decide +kernel
theorem dX12_face_13 : decode cX12_face 13 = .ok (.iload_n 2, 1) := by decide +kernel
theorem dX12_face_14 : decode cX12_face 14 = .ok (.iload_n 3, 1) := by decide +kernel
theorem dX12_face_15 : decode cX12_face 15 = .ok (.iload 4, 2) := by decide +kernel
theorem dX12_face_17 : decode cX12_face 17 = .ok (.invokevirtual 175, 3) := by decide +kernel
theorem dX12_face_20 : decode cX12_face 20 = .ok (.ifCond .ne 39, 3) := by decide +kernel
theorem dX12_face_23 : decode cX12_face 23 = .ok (.aload_n 0, 1) := by decide +kernel
theorem dX12_face_24 : decode cX12_face 24 = .ok (.ldc 179, 2) := by decide +kernel
theorem dX12_face_26 : decode cX12_face 26 = .ok (.iload 5, 2) := by decide +kernel
theorem dX12_face_28 : decode cX12_face 28 = .ok (.invokevirtual 53, 3) := by decide +kernel
theorem dX12_face_31 : decode cX12_face 31 = .ok (.ifCond .lt 16, 3) := by decide +kernel
theorem dX12_face_34 : decode cX12_face 34 = .ok (.iload 4, 2) := by decide +kernel
theorem dX12_face_36 : decode cX12_face 36 = .ok (.i2l, 1) := by decide +kernel
theorem dX12_face_37 : decode cX12_face 37 = .ok (.lconst 1, 1) := by decide +kernel
theorem dX12_face_38 : decode cX12_face 38 = .ok (.ldc2_w 181, 3) := by decide +kernel
theorem dX12_face_41 : decode cX12_face 41 = .ok (.invokestatic 44, 3) := by decide +kernel
theorem dX12_face_44 : decode cX12_face 44 = .ok (.ifCond .ne 7, 3) := by decide +kernel
theorem dX12_face_47 : decode cX12_face 47 = .ok (.iconst 1, 1) := by decide +kernel
theorem dX12_face_48 : decode cX12_face 48 = .ok (.goto 4, 3) := by decide +kernel
theorem dX12_face_51 : decode cX12_face 51 = .ok (.iconst 0, 1) := by decide +kernel
theorem dX12_face_52 : decode cX12_face 52 = .ok (.iconst 2, 1) := by decide +kernel
theorem dX12_face_53 : decode cX12_face 53 = .ok (.invokevirtual 67, 3) := by decide +kernel
theorem dX12_face_56 : decode cX12_face 56 = .ok (.ifCond .eq 5, 3) := by decide +kernel
theorem dX12_face_59 : decode cX12_face 59 = .ok (.iconst (-1), 1) := by decide +kernel
theorem dX12_face_60 : decode cX12_face 60 = .ok (.ireturn, 1) := by decide +kernel
theorem dX12_face_61 : decode cX12_face 61 = .ok (.aload_n 0, 1) := by decide +kernel
theorem dX12_face_62 : decode cX12_face 62 = .ok (.getfield 19, 3) := by decide +kernel
theorem dX12_face_65 : decode cX12_face 65 = .ok (.iload_n 1, 1) := by decide +kernel
theorem dX12_face_66 : decode cX12_face 66 = .ok (.invokeinterface 90 2, 5) := by decide +kernel
theorem dX12_face_71 : decode cX12_face 71 = .ok (.checkcast 129, 3) := by decide +kernel
theorem dX12_face_74 : decode cX12_face 74 = .ok (.astore 6, 2) := by decide +kernel
theorem dX12_face_76 : decode cX12_face 76 = .ok (.new 157, 3) := by decide +kernel
theorem dX12_face_79 : decode cX12_face 79 = .ok (.dup, 1) := by decide +kernel
theorem dX12_face_80 : decode cX12_face 80 = .ok (.aload_n 0, 1) := by decide +kernel
theorem dX12_face_81 : decode cX12_face 81 = .ok (.getfield 16, 3) := by decide +kernel
theorem dX12_face_84 : decode cX12_face 84 = .ok (.iload_n 2, 1) := by decide +kernel
theorem dX12_face_85 : decode cX12_face 85 = .ok (.invokeinterface 90 2, 5) := by decide +kernel
theorem dX12_face_90 : decode cX12_face 90 = .ok (.checkcast 98, 3) := by decide +kernel
theorem dX12_face_93 : decode cX12_face 93 = .ok (.iload_n 3, 1) := by decide +kernel
theorem dX12_face_94 : decode cX12_face 94 = .ok (.iload 4, 2) := by decide +kernel
theorem dX12_face_96 : decode cX12_face 96 = .ok (.invokespecial 183, 3) := by decide +kernel
theorem dX12_face_99 : decode cX12_face 99 = .ok (.astore 7, 2) := by decide +kernel
theorem dX12_face_101 : decode cX12_face 101 = .ok (.aload_n 0, 1) := by decide +kernel
theorem dX12_face_102 : decode cX12_face 102 = .ok (.aload 6, 2) := by decide +kernel
theorem dX12_face_104 : decode cX12_face 104 = .ok (.getfield 186, 3) := by decide +kernel
theorem dX12_face_107 : decode cX12_face 107 = .ok (.ifnonnull 19, 3) := by decide +kernel
theorem dX12_face_110 : decode cX12_face 110 = .ok (.aload 6, 2) := by decide +kernel
theorem dX12_face_112 : decode cX12_face 112 = .ok (.aload 7, 2) := by decide +kernel
theorem dX12_face_114 : decode cX12_face 114 = .ok (.getfield 164, 3) := by decide +kernel
theorem dX12_face_117 : decode cX12_face 117 = .ok (.iload_n 3, 1) := by decide +kernel
theorem dX12_face_118 : decode cX12_face 118 = .ok (.iload 4, 2) := by decide +kernel
theorem dX12_face_120 : decode cX12_face 120 = .ok (.invokestatic 190, 3) := by decide +kernel
theorem dX12_face_123 : decode cX12_face 123 = .ok (.ifCond .ne 7, 3) := by decide +kernel
theorem dX12_face_126 : decode cX12_face 126 = .ok (.iconst 1, 1) := by decide +kernel
theorem dX12_face_127 : decode cX12_face 127 = .ok (.goto 4, 3) := by decide +kernel
theorem dX12_face_130 : decode cX12_face 130 = .ok (.iconst 0, 1) := by decide +kernel
theorem dX12_face_131 : decode cX12_face 131 = .ok (.iconst 3, 1) := by decide +kernel
theorem dX12_face_132 : decode cX12_face 132 = .ok (.invokevirtual 67, 3) := by decide +kernel
theorem dX12_face_135 : decode cX12_face 135 = .ok (.ifCond .eq 5, 3) := by decide +kernel
theorem dX12_face_138 : decode cX12_face 138 = .ok (.iconst (-1), 1) := by decide +kernel
theorem dX12_face_139 : decode cX12_face 139 = .ok (.ireturn, 1) := by decide +kernel
theorem dX12_face_140 : decode cX12_face 140 = .ok (.aload_n 0, 1) := by decide +kernel
theorem dX12_face_141 : decode cX12_face 141 = .ok (.aload 6, 2) := by decide +kernel
theorem dX12_face_143 : decode cX12_face 143 = .ok (.aload 7, 2) := by decide +kernel
theorem dX12_face_145 : decode cX12_face 145 = .ok (.invokevirtual 194, 3) := by decide +kernel
theorem dX12_face_148 : decode cX12_face 148 = .ok (.istore 8, 2) := by decide +kernel
theorem dX12_face_150 : decode cX12_face 150 = .ok (.aload 6, 2) := by decide +kernel
theorem dX12_face_152 : decode cX12_face 152 = .ok (.aload 7, 2) := by decide +kernel
theorem dX12_face_154 : decode cX12_face 154 = .ok (.putfield 186, 3) := by decide +kernel
theorem dX12_face_157 : decode cX12_face 157 = .ok (.aload 6, 2) := by decide +kernel
theorem dX12_face_159 : decode cX12_face 159 = .ok (.aload 7, 2) := by decide +kernel
theorem dX12_face_161 : decode cX12_face 161 = .ok (.iload 5, 2) := by decide +kernel
theorem dX12_face_163 : decode cX12_face 163 = .ok (.invokevirtual 198, 3) := by decide +kernel
theorem dX12_face_166 : decode cX12_face 166 = .ok (.putfield 202, 3) := by decide +kernel
theorem dX12_face_169 : decode cX12_face 169 = .ok (.aload_n 0, 1) := by decide +kernel
theorem dX12_face_170 : decode cX12_face 170 = .ok (.dup, 1) := by decide +kernel
theorem dX12_face_171 : decode cX12_face 171 = .ok (.getfield 204, 3) := by decide +kernel
theorem dX12_face_174 : decode cX12_face 174 = .ok (.aload 6, 2) := by decide +kernel
theorem dX12_face_176 : decode cX12_face 176 = .ok (.getfield 140, 3) := by decide +kernel
theorem dX12_face_179 : decode cX12_face 179 = .ok (.aload 6, 2) := by decide +kernel
theorem dX12_face_181 : decode cX12_face 181 = .ok (.getfield 149, 3) := by decide +kernel
theorem dX12_face_184 : decode cX12_face 184 = .ok (.imul, 1) := by decide +kernel
theorem dX12_face_185 : decode cX12_face 185 = .ok (.iadd, 1) := by decide +kernel
theorem dX12_face_186 : decode cX12_face 186 = .ok (.putfield 204, 3) := by decide +kernel
theorem dX12_face_189 : decode cX12_face 189 = .ok (.aload 6, 2) := by decide +kernel
theorem dX12_face_191 : decode cX12_face 191 = .ok (.getfield 202, 3) := by decide +kernel
theorem dX12_face_194 : decode cX12_face 194 = .ok (.ireturn, 1) := by decide +kernel
theorem dX12_back_0 : decode cX12_back 0 = .ok (.aload_n 0, 1) := by decide +kernel
theorem dX12_back_1 : decode cX12_back 1 = .ok (.invokevirtual 48, 3) := by decide +kernel
theorem dX12_back_4 : decode cX12_back 4 = .ok (.aload_n 0, 1) := by decide +kernel
theorem dX12_back_5 : decode cX12_back 5 = .ok (.iload_n 1, 1) := by decide +kernel
theorem dX12_back_6 : decode cX12_back 6 = .ok (.invokevirtual 171, 3) := by decide +kernel
theorem dX12_back_9 : decode cX12_back 9 = .ok (.ifCond .ne 40, 3) := by decide +kernel
theorem dX12_back_12 : decode cX12_back 12 = .ok (.aload_n 0, 1) := by decide +kernel
theorem dX12_back_13 : decode cX12_back 13 = .ok (.iload_n 2, 1) := by decide +kernel
theorem dX12_back_14 : decode cX12_back 14 = .ok (.iload_n 3, 1) := by decide +kernel
theorem dX12_back_15 : decode cX12_back 15 = .ok (.iload 4, 2) := by decide +kernel
theorem dX12_back_17 : decode cX12_back 17 = .ok (.invokevirtual 175, 3) := by decide +kernel
theorem dX12_back_20 : decode cX12_back 20 = .ok (.ifCond .ne 29, 3) := by decide +kernel
theorem dX12_back_23 : decode cX12_back 23 = .ok (.aload_n 0, 1) := by decide +kernel
theorem dX12_back_24 : decode cX12_back 24 = .ok (.iload 4, 2) := by decide +kernel
theorem dX12_back_26 : decode cX12_back 26 = .ok (.i2l, 1) := by decide +kernel
theorem dX12_back_27 : decode cX12_back 27 = .ok (.lconst 1, 1) := by decide +kernel
theorem dX12_back_28 : decode cX12_back 28 = .ok (.ldc2_w 181, 3) := by decide +kernel
theorem dX12_back_31 : decode cX12_back 31 = .ok (.invokestatic 44, 3) := by decide +kernel
theorem dX12_back_34 : decode cX12_back 34 = .ok (.ifCond .ne 7, 3) := by decide +kernel
theorem dX12_back_37 : decode cX12_back 37 = .ok (.iconst 1, 1) := by decide +kernel
theorem dX12_back_38 : decode cX12_back 38 = .ok (.goto 4, 3) := by decide +kernel
theorem dX12_back_41 : decode cX12_back 41 = .ok (.iconst 0, 1) := by decide +kernel
theorem dX12_back_42 : decode cX12_back 42 = .ok (.iconst 2, 1) := by decide +kernel
theorem dX12_back_43 : decode cX12_back 43 = .ok (.invokevirtual 67, 3) := by decide +kernel
theorem dX12_back_46 : decode cX12_back 46 = .ok (.ifCond .eq 5, 3) := by decide +kernel
theorem dX12_back_49 : decode cX12_back 49 = .ok (.iconst (-1), 1) := by decide +kernel
theorem dX12_back_50 : decode cX12_back 50 = .ok (.ireturn, 1) := by decide +kernel
theorem dX12_back_51 : decode cX12_back 51 = .ok (.aload_n 0, 1) := by decide +kernel
theorem dX12_back_52 : decode cX12_back 52 = .ok (.getfield 19, 3) := by decide +kernel
theorem dX12_back_55 : decode cX12_back 55 = .ok (.iload_n 1, 1) := by decide +kernel
theorem dX12_back_56 : decode cX12_back 56 = .ok (.invokeinterface 90 2, 5) := by decide +kernel
theorem dX12_back_61 : decode cX12_back 61 = .ok (.checkcast 129, 3) := by decide +kernel
theorem dX12_back_64 : decode cX12_back 64 = .ok (.astore 5, 2) := by decide +kernel
theorem dX12_back_66 : decode cX12_back 66 = .ok (.new 157, 3) := by decide +kernel
theorem dX12_back_69 : decode cX12_back 69 = .ok (.dup, 1) := by decide +kernel
theorem dX12_back_70 : decode cX12_back 70 = .ok (.aload_n 0, 1) := by decide +kernel
theorem dX12_back_71 : decode cX12_back 71 = .ok (.getfield 16, 3) := by decide +kernel
theorem dX12_back_74 : decode cX12_back 74 = .ok (.iload_n 2, 1) := by decide +kernel
theorem dX12_back_75 : decode cX12_back 75 = .ok (.invokeinterface 90 2, 5) := by decide +kernel
theorem dX12_back_80 : decode cX12_back 80 = .ok (.checkcast 98, 3) := by decide +kernel
theorem dX12_back_83 : decode cX12_back 83 = .ok (.iload_n 3, 1) := by decide +kernel
theorem dX12_back_84 : decode cX12_back 84 = .ok (.iload 4, 2) := by decide +kernel
theorem dX12_back_86 : decode cX12_back 86 = .ok (.invokespecial 183, 3) := by decide +kernel
theorem dX12_back_89 : decode cX12_back 89 = .ok (.astore 6, 2) := by decide +kernel
theorem dX12_back_91 : decode cX12_back 91 = .ok (.aload_n 0, 1) := by decide +kernel
theorem dX12_back_92 : decode cX12_back 92 = .ok (.aload 5, 2) := by decide +kernel
theorem dX12_back_94 : decode cX12_back 94 = .ok (.getfield 207, 3) := by decide +kernel
theorem dX12_back_97 : decode cX12_back 97 = .ok (.ifnonnull 27, 3) := by decide +kernel
theorem dX12_back_100 : decode cX12_back 100 = .ok (.aload 5, 2) := by decide +kernel
theorem dX12_back_102 : decode cX12_back 102 = .ok (.getfield 210, 3) := by decide +kernel
theorem dX12_back_105 : decode cX12_back 105 = .ok (.ifCond .ne 19, 3) := by decide +kernel
theorem dX12_back_108 : decode cX12_back 108 = .ok (.aload 5, 2) := by decide +kernel
theorem dX12_back_110 : decode cX12_back 110 = .ok (.aload 6, 2) := by decide +kernel
theorem dX12_back_112 : decode cX12_back 112 = .ok (.getfield 164, 3) := by decide +kernel
theorem dX12_back_115 : decode cX12_back 115 = .ok (.iload_n 3, 1) := by decide +kernel
theorem dX12_back_116 : decode cX12_back 116 = .ok (.iload 4, 2) := by decide +kernel
theorem dX12_back_118 : decode cX12_back 118 = .ok (.invokestatic 190, 3) := by decide +kernel
theorem dX12_back_121 : decode cX12_back 121 = .ok (.ifCond .ne 7, 3) := by decide +kernel
theorem dX12_back_124 : decode cX12_back 124 = .ok (.iconst 1, 1) := by decide +kernel
theorem dX12_back_125 : decode cX12_back 125 = .ok (.goto 4, 3) := by decide +kernel
theorem dX12_back_128 : decode cX12_back 128 = .ok (.iconst 0, 1) := by decide +kernel
theorem dX12_back_129 : decode cX12_back 129 = .ok (.iconst 3, 1) := by decide +kernel
theorem dX12_back_130 : decode cX12_back 130 = .ok (.invokevirtual 67, 3) := by decide +kernel
theorem dX12_back_133 : decode cX12_back 133 = .ok (.ifCond .eq 5, 3) := by decide +kernel
theorem dX12_back_136 : decode cX12_back 136 = .ok (.iconst (-1), 1) := by decide +kernel
theorem dX12_back_137 : decode cX12_back 137 = .ok (.ireturn, 1) := by decide +kernel
theorem dX12_back_138 : decode cX12_back 138 = .ok (.aload 5, 2) := by decide +kernel
theorem dX12_back_140 : decode cX12_back 140 = .ok (.aload 6, 2) := by decide +kernel
theorem dX12_back_142 : decode cX12_back 142 = .ok (.putfield 207, 3) := by decide +kernel
theorem dX12_back_145 : decode cX12_back 145 = .ok (.aload_n 0, 1) := by decide +kernel
theorem dX12_back_146 : decode cX12_back 146 = .ok (.dup, 1) := by decide +kernel
theorem dX12_back_147 : decode cX12_back 147 = .ok (.getfield 213, 3) := by decide +kernel
theorem dX12_back_150 : decode cX12_back 150 = .ok (.aload 5, 2) := by decide +kernel
theorem dX12_back_152 : decode cX12_back 152 = .ok (.getfield 140, 3) := by decide +kernel
theorem dX12_back_155 : decode cX12_back 155 = .ok (.aload 5, 2) := by decide +kernel
theorem dX12_back_157 : decode cX12_back 157 = .ok (.getfield 149, 3) := by decide +kernel
theorem dX12_back_160 : decode cX12_back 160 = .ok (.imul, 1) := by decide +kernel
theorem dX12_back_161 : decode cX12_back 161 = .ok (.iadd, 1) := by decide +kernel
theorem dX12_back_162 : decode cX12_back 162 = .ok (.putfield 213, 3) := by decide +kernel
theorem dX12_back_165 : decode cX12_back 165 = .ok (.aload_n 0, 1) := by decide +kernel
theorem dX12_back_166 : decode cX12_back 166 = .ok (.aload 5, 2) := by decide +kernel
theorem dX12_back_168 : decode cX12_back 168 = .ok (.aload 6, 2) := by decide +kernel
theorem dX12_back_170 : decode cX12_back 170 = .ok (.invokevirtual 194, 3) := by decide +kernel
theorem dX12_back_173 : decode cX12_back 173 = .ok (.ireturn, 1) := by decide +kernel
theorem dX12_jump_0 : decode cX12_jump 0 = .ok (.aload_n 0, 1) := by decide +kernel
theorem dX12_jump_1 : decode cX12_jump 1 = .ok (.invokevirtual 48, 3) := by decide +kernel
theorem dX12_jump_4 : decode cX12_jump 4 = .ok (.aload_n 0, 1) := by decide +kernel
theorem dX12_jump_5 : decode cX12_jump 5 = .ok (.iload_n 1, 1) := by decide +kernel
theorem dX12_jump_6 : decode cX12_jump 6 = .ok (.invokevirtual 171, 3) := by decide +kernel
theorem dX12_jump_9 : decode cX12_jump 9 = .ok (.ifCond .ne 35, 3) := by decide +kernel
theorem dX12_jump_12 : decode cX12_jump 12 = .ok (.aload_n 0, 1) := by decide +kernel
theorem dX12_jump_13 : decode cX12_jump 13 = .ok (.aload_n 0, 1) := by decide +kernel
theorem dX12_jump_14 : decode cX12_jump 14 = .ok (.getfield 19, 3) := by decide +kernel
theorem dX12_jump_17 : decode cX12_jump 17 = .ok (.iload_n 1, 1) := by decide +kernel
theorem dX12_jump_18 : decode cX12_jump 18 = .ok (.invokeinterface 90 2, 5) := by decide +kernel
theorem dX12_jump_23 : decode cX12_jump 23 = .ok (.checkcast 129, 3) := by decide +kernel
theorem dX12_jump_26 : decode cX12_jump 26 = .ok (.getfield 186, 3) := by decide +kernel
theorem dX12_jump_29 : decode cX12_jump 29 = .ok (.ifnonnull 7, 3) := by decide +kernel
theorem dX12_jump_32 : decode cX12_jump 32 = .ok (.iconst 1, 1) := by decide +kernel
theorem dX12_jump_33 : decode cX12_jump 33 = .ok (.goto 4, 3) := by decide +kernel
theorem dX12_jump_36 : decode cX12_jump 36 = .ok (.iconst 0, 1) := by decide +kernel
theorem dX12_jump_37 : decode cX12_jump 37 = .ok (.iconst 2, 1) := by decide +kernel
theorem dX12_jump_38 : decode cX12_jump 38 = .ok (.invokevirtual 67, 3) := by decide +kernel
theorem dX12_jump_41 : decode cX12_jump 41 = .ok (.ifCond .eq 7, 3) := by decide +kernel
theorem dX12_jump_44 : decode cX12_jump 44 = .ok (.iconst (-1), 1) := by decide +kernel
theorem dX12_jump_45 : decode cX12_jump 45 = .ok (.goto 19, 3) := by decide +kernel
theorem dX12_jump_48 : decode cX12_jump 48 = .ok (.aload_n 0, 1) := by decide +kernel
theorem dX12_jump_49 : decode cX12_jump 49 = .ok (.getfield 19, 3) := by decide +kernel
theorem dX12_jump_52 : decode cX12_jump 52 = .ok (.iload_n 1, 1) := by decide +kernel
theorem dX12_jump_53 : decode cX12_jump 53 = .ok (.invokeinterface 90 2, 5) := by decide +kernel
theorem dX12_jump_58 : decode cX12_jump 58 = .ok (.checkcast 129, 3) := by decide +kernel
theorem dX12_jump_61 : decode cX12_jump 61 = .ok (.getfield 202, 3) := by decide +kernel
theorem dX12_jump_64 : decode cX12_jump 64 = .ok (.ireturn, 1) := by decide +kernel
theorem dX12_bestFirst_0 : decode cX12_bestFirst 0 = .ok (.aload_n 0, 1) := by decide +kernel
theorem dX12_bestFirst_1 : decode cX12_bestFirst 1 = .ok (.invokevirtual 48, 3) := by decide +kernel
theorem dX12_bestFirst_4 : decode cX12_bestFirst 4 = .ok (.aload_n 0, 1) := by decide +kernel
theorem dX12_bestFirst_5 : decode cX12_bestFirst 5 = .ok (.aload_n 0, 1) := by decide +kernel
theorem dX12_bestFirst_6 : decode cX12_bestFirst 6 = .ok (.getfield 19, 3) := by decide +kernel
theorem dX12_bestFirst_9 : decode cX12_bestFirst 9 = .ok (.iload_n 1, 1) := by decide +kernel
theorem dX12_bestFirst_10 : decode cX12_bestFirst 10 = .ok (.invokestatic 80, 3) := by decide +kernel
theorem dX12_bestFirst_13 : decode cX12_bestFirst 13 = .ok (.ifCond .eq 14, 3) := by decide +kernel
theorem dX12_bestFirst_16 : decode cX12_bestFirst 16 = .ok (.aload_n 0, 1) := by decide +kernel
theorem dX12_bestFirst_17 : decode cX12_bestFirst 17 = .ok (.getfield 16, 3) := by decide +kernel
theorem dX12_bestFirst_20 : decode cX12_bestFirst 20 = .ok (.iload_n 2, 1) := by decide +kernel
theorem dX12_bestFirst_21 : decode cX12_bestFirst 21 = .ok (.invokestatic 80, 3) := by decide +kernel
theorem dX12_bestFirst_24 : decode cX12_bestFirst 24 = .ok (.ifCond .ne 7, 3) := by decide +kernel
theorem dX12_bestFirst_27 : decode cX12_bestFirst 27 = .ok (.iconst 1, 1) := by decide +kernel
theorem dX12_bestFirst_28 : decode cX12_bestFirst 28 = .ok (.goto 4, 3) := by decide +kernel
theorem dX12_bestFirst_31 : decode cX12_bestFirst 31 = .ok (.iconst 0, 1) := by decide +kernel
theorem dX12_bestFirst_32 : decode cX12_bestFirst 32 = .ok (.iconst 1, 1) := by decide +kernel
theorem dX12_bestFirst_33 : decode cX12_bestFirst 33 = .ok (.invokevirtual 67, 3) := by decide +kernel
theorem dX12_bestFirst_36 : decode cX12_bestFirst 36 = .ok (.ifCond .ne 38, 3) := by decide +kernel
theorem dX12_bestFirst_39 : decode cX12_bestFirst 39 = .ok (.aload_n 0, 1) := by decide +kernel
theorem dX12_bestFirst_40 : decode cX12_bestFirst 40 = .ok (.ldc 179, 2) := by decide +kernel
theorem dX12_bestFirst_42 : decode cX12_bestFirst 42 = .ok (.iload 4, 2) := by decide +kernel
theorem dX12_bestFirst_44 : decode cX12_bestFirst 44 = .ok (.invokevirtual 53, 3) := by decide +kernel
theorem dX12_bestFirst_47 : decode cX12_bestFirst 47 = .ok (.ifCond .lt 15, 3) := by decide +kernel
theorem dX12_bestFirst_50 : decode cX12_bestFirst 50 = .ok (.iload_n 3, 1) := by decide +kernel
theorem dX12_bestFirst_51 : decode cX12_bestFirst 51 = .ok (.i2l, 1) := by decide +kernel
theorem dX12_bestFirst_52 : decode cX12_bestFirst 52 = .ok (.lconst 1, 1) := by decide +kernel
theorem dX12_bestFirst_53 : decode cX12_bestFirst 53 = .ok (.ldc2_w 181, 3) := by decide +kernel
theorem dX12_bestFirst_56 : decode cX12_bestFirst 56 = .ok (.invokestatic 44, 3) := by decide +kernel
theorem dX12_bestFirst_59 : decode cX12_bestFirst 59 = .ok (.ifCond .ne 7, 3) := by decide +kernel
theorem dX12_bestFirst_62 : decode cX12_bestFirst 62 = .ok (.iconst 1, 1) := by decide +kernel
theorem dX12_bestFirst_63 : decode cX12_bestFirst 63 = .ok (.goto 4, 3) := by decide +kernel
theorem dX12_bestFirst_66 : decode cX12_bestFirst 66 = .ok (.iconst 0, 1) := by decide +kernel
theorem dX12_bestFirst_67 : decode cX12_bestFirst 67 = .ok (.iconst 2, 1) := by decide +kernel
theorem dX12_bestFirst_68 : decode cX12_bestFirst 68 = .ok (.invokevirtual 67, 3) := by decide +kernel
theorem dX12_bestFirst_71 : decode cX12_bestFirst 71 = .ok (.ifCond .eq 5, 3) := by decide +kernel
theorem dX12_bestFirst_74 : decode cX12_bestFirst 74 = .ok (.iconst (-1), 1) := by decide +kernel
theorem dX12_bestFirst_75 : decode cX12_bestFirst 75 = .ok (.ireturn, 1) := by decide +kernel
theorem dX12_bestFirst_76 : decode cX12_bestFirst 76 = .ok (.aload_n 0, 1) := by decide +kernel
theorem dX12_bestFirst_77 : decode cX12_bestFirst 77 = .ok (.getfield 16, 3) := by decide +kernel
theorem dX12_bestFirst_80 : decode cX12_bestFirst 80 = .ok (.iload_n 2, 1) := by decide +kernel
theorem dX12_bestFirst_81 : decode cX12_bestFirst 81 = .ok (.invokeinterface 90 2, 5) := by decide +kernel
theorem dX12_bestFirst_86 : decode cX12_bestFirst 86 = .ok (.checkcast 98, 3) := by decide +kernel
theorem dX12_bestFirst_89 : decode cX12_bestFirst 89 = .ok (.astore 5, 2) := by decide +kernel
theorem dX12_bestFirst_91 : decode cX12_bestFirst 91 = .ok (.iconst (-1), 1) := by decide +kernel
theorem dX12_bestFirst_92 : decode cX12_bestFirst 92 = .ok (.istore 6, 2) := by decide +kernel
theorem dX12_bestFirst_94 : decode cX12_bestFirst 94 = .ok (.iconst 0, 1) := by decide +kernel
theorem dX12_bestFirst_95 : decode cX12_bestFirst 95 = .ok (.istore 7, 2) := by decide +kernel
theorem dX12_bestFirst_97 : decode cX12_bestFirst 97 = .ok (.iconst 0, 1) := by decide +kernel
theorem dX12_bestFirst_98 : decode cX12_bestFirst 98 = .ok (.istore 8, 2) := by decide +kernel
theorem dX12_bestFirst_100 : decode cX12_bestFirst 100 = .ok (.iload 8, 2) := by decide +kernel
theorem dX12_bestFirst_102 : decode cX12_bestFirst 102 = .ok (.iload_n 3, 1) := by decide +kernel
theorem dX12_bestFirst_103 : decode cX12_bestFirst 103 = .ok (.iadd, 1) := by decide +kernel
theorem dX12_bestFirst_104 : decode cX12_bestFirst 104 = .ok (.aload 5, 2) := by decide +kernel
theorem dX12_bestFirst_106 : decode cX12_bestFirst 106 = .ok (.getfield 103, 3) := by decide +kernel
theorem dX12_bestFirst_109 : decode cX12_bestFirst 109 = .ok (.arraylength, 1) := by decide +kernel
theorem dX12_bestFirst_110 : decode cX12_bestFirst 110 = .ok (.if_icmp .gt 73, 3) := by decide +kernel
theorem dX12_bestFirst_113 : decode cX12_bestFirst 113 = .ok (.new 157, 3) := by decide +kernel
theorem dX12_bestFirst_116 : decode cX12_bestFirst 116 = .ok (.dup, 1) := by decide +kernel
theorem dX12_bestFirst_117 : decode cX12_bestFirst 117 = .ok (.aload 5, 2) := by decide +kernel
theorem dX12_bestFirst_119 : decode cX12_bestFirst 119 = .ok (.iload 8, 2) := by decide +kernel
theorem dX12_bestFirst_121 : decode cX12_bestFirst 121 = .ok (.iload_n 3, 1) := by decide +kernel
theorem dX12_bestFirst_122 : decode cX12_bestFirst 122 = .ok (.invokespecial 183, 3) := by decide +kernel
theorem dX12_bestFirst_125 : decode cX12_bestFirst 125 = .ok (.iload 4, 2) := by decide +kernel
theorem dX12_bestFirst_127 : decode cX12_bestFirst 127 = .ok (.invokevirtual 198, 3) := by decide +kernel
theorem dX12_bestFirst_130 : decode cX12_bestFirst 130 = .ok (.istore 9, 2) := by decide +kernel
theorem dX12_bestFirst_132 : decode cX12_bestFirst 132 = .ok (.aload_n 0, 1) := by decide +kernel
theorem dX12_bestFirst_133 : decode cX12_bestFirst 133 = .ok (.getfield 19, 3) := by decide +kernel
theorem dX12_bestFirst_136 : decode cX12_bestFirst 136 = .ok (.iload_n 1, 1) := by decide +kernel
theorem dX12_bestFirst_137 : decode cX12_bestFirst 137 = .ok (.invokeinterface 90 2, 5) := by decide +kernel
theorem dX12_bestFirst_142 : decode cX12_bestFirst 142 = .ok (.checkcast 129, 3) := by decide +kernel
theorem dX12_bestFirst_145 : decode cX12_bestFirst 145 = .ok (.aload 5, 2) := by decide +kernel
theorem dX12_bestFirst_147 : decode cX12_bestFirst 147 = .ok (.iload 8, 2) := by decide +kernel
theorem dX12_bestFirst_149 : decode cX12_bestFirst 149 = .ok (.iload_n 3, 1) := by decide +kernel
theorem dX12_bestFirst_150 : decode cX12_bestFirst 150 = .ok (.invokestatic 190, 3) := by decide +kernel
theorem dX12_bestFirst_153 : decode cX12_bestFirst 153 = .ok (.ifCond .eq 24, 3) := by decide +kernel
theorem dX12_bestFirst_156 : decode cX12_bestFirst 156 = .ok (.iload 6, 2) := by decide +kernel
theorem dX12_bestFirst_158 : decode cX12_bestFirst 158 = .ok (.iconst (-1), 1) := by decide +kernel
theorem dX12_bestFirst_159 : decode cX12_bestFirst 159 = .ok (.if_icmp .eq 10, 3) := by decide +kernel
theorem dX12_bestFirst_162 : decode cX12_bestFirst 162 = .ok (.iload 9, 2) := by decide +kernel
theorem dX12_bestFirst_164 : decode cX12_bestFirst 164 = .ok (.iload 7, 2) := by decide +kernel
theorem dX12_bestFirst_166 : decode cX12_bestFirst 166 = .ok (.if_icmp .ge 11, 3) := by decide +kernel
theorem dX12_bestFirst_169 : decode cX12_bestFirst 169 = .ok (.iload 8, 2) := by decide +kernel
theorem dX12_bestFirst_171 : decode cX12_bestFirst 171 = .ok (.istore 6, 2) := by decide +kernel
theorem dX12_bestFirst_173 : decode cX12_bestFirst 173 = .ok (.iload 9, 2) := by decide +kernel
theorem dX12_bestFirst_175 : decode cX12_bestFirst 175 = .ok (.istore 7, 2) := by decide +kernel
theorem dX12_bestFirst_177 : decode cX12_bestFirst 177 = .ok (.iinc 8 1, 3) := by decide +kernel
theorem dX12_bestFirst_180 : decode cX12_bestFirst 180 = .ok (.goto (-80), 3) := by decide +kernel
theorem dX12_bestFirst_183 : decode cX12_bestFirst 183 = .ok (.aload_n 0, 1) := by decide +kernel
theorem dX12_bestFirst_184 : decode cX12_bestFirst 184 = .ok (.iload 6, 2) := by decide +kernel
theorem dX12_bestFirst_186 : decode cX12_bestFirst 186 = .ok (.iconst (-1), 1) := by decide +kernel
theorem dX12_bestFirst_187 : decode cX12_bestFirst 187 = .ok (.if_icmp .ne 7, 3) := by decide +kernel
theorem dX12_bestFirst_190 : decode cX12_bestFirst 190 = .ok (.iconst 1, 1) := by decide +kernel
theorem dX12_bestFirst_191 : decode cX12_bestFirst 191 = .ok (.goto 4, 3) := by decide +kernel
theorem dX12_bestFirst_194 : decode cX12_bestFirst 194 = .ok (.iconst 0, 1) := by decide +kernel
theorem dX12_bestFirst_195 : decode cX12_bestFirst 195 = .ok (.iconst 3, 1) := by decide +kernel
theorem dX12_bestFirst_196 : decode cX12_bestFirst 196 = .ok (.invokevirtual 67, 3) := by decide +kernel
theorem dX12_bestFirst_199 : decode cX12_bestFirst 199 = .ok (.ifCond .eq 7, 3) := by decide +kernel
theorem dX12_bestFirst_202 : decode cX12_bestFirst 202 = .ok (.iconst (-1), 1) := by decide +kernel
theorem dX12_bestFirst_203 : decode cX12_bestFirst 203 = .ok (.goto 5, 3) := by decide +kernel
theorem dX12_bestFirst_206 : decode cX12_bestFirst 206 = .ok (.iload 6, 2) := by decide +kernel
theorem dX12_bestFirst_208 : decode cX12_bestFirst 208 = .ok (.ireturn, 1) := by decide +kernel
theorem dX12_press_0 : decode cX12_press 0 = .ok (.aload_n 0, 1) := by decide +kernel
theorem dX12_press_1 : decode cX12_press 1 = .ok (.invokevirtual 48, 3) := by decide +kernel
theorem dX12_press_4 : decode cX12_press 4 = .ok (.aload_n 0, 1) := by decide +kernel
theorem dX12_press_5 : decode cX12_press 5 = .ok (.iload_n 1, 1) := by decide +kernel
theorem dX12_press_6 : decode cX12_press 6 = .ok (.invokevirtual 171, 3) := by decide +kernel
theorem dX12_press_9 : decode cX12_press 9 = .ok (.ifCond .ne 104, 3) := by decide +kernel
theorem dX12_press_12 : decode cX12_press 12 = .ok (.aload_n 0, 1) := by decide +kernel
theorem dX12_press_13 : decode cX12_press 13 = .ok (.iload_n 2, 1) := by decide +kernel
theorem dX12_press_14 : decode cX12_press 14 = .ok (.i2l, 1) := by decide +kernel
theorem dX12_press_15 : decode cX12_press 15 = .ok (.lconst 0, 1) := by decide +kernel
theorem dX12_press_16 : decode cX12_press 16 = .ok (.ldc2_w 216, 3) := by decide +kernel
theorem dX12_press_19 : decode cX12_press 19 = .ok (.invokestatic 44, 3) := by decide +kernel
theorem dX12_press_22 : decode cX12_press 22 = .ok (.ifCond .eq 28, 3) := by decide +kernel
theorem dX12_press_25 : decode cX12_press 25 = .ok (.iload_n 3, 1) := by decide +kernel
theorem dX12_press_26 : decode cX12_press 26 = .ok (.i2l, 1) := by decide +kernel
theorem dX12_press_27 : decode cX12_press 27 = .ok (.lconst 1, 1) := by decide +kernel
theorem dX12_press_28 : decode cX12_press 28 = .ok (.ldc2_w 218, 3) := by decide +kernel
theorem dX12_press_31 : decode cX12_press 31 = .ok (.invokestatic 44, 3) := by decide +kernel
theorem dX12_press_34 : decode cX12_press 34 = .ok (.ifCond .eq 16, 3) := by decide +kernel
theorem dX12_press_37 : decode cX12_press 37 = .ok (.iload 4, 2) := by decide +kernel
theorem dX12_press_39 : decode cX12_press 39 = .ok (.i2l, 1) := by decide +kernel
theorem dX12_press_40 : decode cX12_press 40 = .ok (.lconst 0, 1) := by decide +kernel
theorem dX12_press_41 : decode cX12_press 41 = .ok (.ldc2_w 216, 3) := by decide +kernel
theorem dX12_press_44 : decode cX12_press 44 = .ok (.invokestatic 44, 3) := by decide +kernel
theorem dX12_press_47 : decode cX12_press 47 = .ok (.ifCond .ne 7, 3) := by decide +kernel
theorem dX12_press_50 : decode cX12_press 50 = .ok (.iconst 1, 1) := by decide +kernel
theorem dX12_press_51 : decode cX12_press 51 = .ok (.goto 4, 3) := by decide +kernel
theorem dX12_press_54 : decode cX12_press 54 = .ok (.iconst 0, 1) := by decide +kernel
theorem dX12_press_55 : decode cX12_press 55 = .ok (.iconst 2, 1) := by decide +kernel
theorem dX12_press_56 : decode cX12_press 56 = .ok (.invokevirtual 67, 3) := by decide +kernel
theorem dX12_press_59 : decode cX12_press 59 = .ok (.ifCond .ne 54, 3) := by decide +kernel
theorem dX12_press_62 : decode cX12_press 62 = .ok (.aload_n 0, 1) := by decide +kernel
theorem dX12_press_63 : decode cX12_press 63 = .ok (.aload_n 0, 1) := by decide +kernel
theorem dX12_press_64 : decode cX12_press 64 = .ok (.getfield 19, 3) := by decide +kernel
theorem dX12_press_67 : decode cX12_press 67 = .ok (.iload_n 1, 1) := by decide +kernel
theorem dX12_press_68 : decode cX12_press 68 = .ok (.invokeinterface 90 2, 5) := by decide +kernel
theorem dX12_press_73 : decode cX12_press 73 = .ok (.checkcast 129, 3) := by decide +kernel
theorem dX12_press_76 : decode cX12_press 76 = .ok (.getfield 186, 3) := by decide +kernel
theorem dX12_press_79 : decode cX12_press 79 = .ok (.ifnull 22, 3) := by decide +kernel
theorem dX12_press_82 : decode cX12_press 82 = .ok (.aload_n 0, 1) := by decide +kernel
theorem dX12_press_83 : decode cX12_press 83 = .ok (.getfield 19, 3) := by decide +kernel
theorem dX12_press_86 : decode cX12_press 86 = .ok (.iload_n 1, 1) := by decide +kernel
theorem dX12_press_87 : decode cX12_press 87 = .ok (.invokeinterface 90 2, 5) := by decide +kernel
theorem dX12_press_92 : decode cX12_press 92 = .ok (.checkcast 129, 3) := by decide +kernel
theorem dX12_press_95 : decode cX12_press 95 = .ok (.getfield 210, 3) := by decide +kernel
theorem dX12_press_98 : decode cX12_press 98 = .ok (.ifCond .eq 7, 3) := by decide +kernel
theorem dX12_press_101 : decode cX12_press 101 = .ok (.iconst 1, 1) := by decide +kernel
theorem dX12_press_102 : decode cX12_press 102 = .ok (.goto 4, 3) := by decide +kernel
theorem dX12_press_105 : decode cX12_press 105 = .ok (.iconst 0, 1) := by decide +kernel
theorem dX12_press_106 : decode cX12_press 106 = .ok (.iconst 3, 1) := by decide +kernel
theorem dX12_press_107 : decode cX12_press 107 = .ok (.invokevirtual 67, 3) := by decide +kernel
theorem dX12_press_110 : decode cX12_press 110 = .ok (.ifCond .eq 5, 3) := by decide +kernel
theorem dX12_press_113 : decode cX12_press 113 = .ok (.iconst (-1), 1) := by decide +kernel
theorem dX12_press_114 : decode cX12_press 114 = .ok (.ireturn, 1) := by decide +kernel
theorem dX12_press_115 : decode cX12_press 115 = .ok (.aload_n 0, 1) := by decide +kernel
theorem dX12_press_116 : decode cX12_press 116 = .ok (.getfield 19, 3) := by decide +kernel
theorem dX12_press_119 : decode cX12_press 119 = .ok (.iload_n 1, 1) := by decide +kernel
theorem dX12_press_120 : decode cX12_press 120 = .ok (.invokeinterface 90 2, 5) := by decide +kernel
theorem dX12_press_125 : decode cX12_press 125 = .ok (.checkcast 129, 3) := by decide +kernel
theorem dX12_press_128 : decode cX12_press 128 = .ok (.astore 5, 2) := by decide +kernel
theorem dX12_press_130 : decode cX12_press 130 = .ok (.iload 4, 2) := by decide +kernel
theorem dX12_press_132 : decode cX12_press 132 = .ok (.iconst 4, 1) := by decide +kernel
theorem dX12_press_133 : decode cX12_press 133 = .ok (.iload_n 2, 1) := by decide +kernel
theorem dX12_press_134 : decode cX12_press 134 = .ok (.iconst 3, 1) := by decide +kernel
theorem dX12_press_135 : decode cX12_press 135 = .ok (.idiv, 1) := by decide +kernel
theorem dX12_press_136 : decode cX12_press 136 = .ok (.iadd, 1) := by decide +kernel
theorem dX12_press_137 : decode cX12_press 137 = .ok (.if_icmp .le 7, 3) := by decide +kernel
theorem dX12_press_140 : decode cX12_press 140 = .ok (.iconst 2, 1) := by decide +kernel
theorem dX12_press_141 : decode cX12_press 141 = .ok (.goto 4, 3) := by decide +kernel
theorem dX12_press_144 : decode cX12_press 144 = .ok (.iconst 0, 1) := by decide +kernel
theorem dX12_press_145 : decode cX12_press 145 = .ok (.iload_n 3, 1) := by decide +kernel
theorem dX12_press_146 : decode cX12_press 146 = .ok (.bipush 20, 2) := by decide +kernel
theorem dX12_press_148 : decode cX12_press 148 = .ok (.aload_n 0, 1) := by decide +kernel
theorem dX12_press_149 : decode cX12_press 149 = .ok (.getfield 22, 3) := by decide +kernel
theorem dX12_press_152 : decode cX12_press 152 = .ok (.iload_n 1, 1) := by decide +kernel
theorem dX12_press_153 : decode cX12_press 153 = .ok (.invokeinterface 90 2, 5) := by decide +kernel
theorem dX12_press_158 : decode cX12_press 158 = .ok (.checkcast 135, 3) := by decide +kernel
theorem dX12_press_161 : decode cX12_press 161 = .ok (.invokevirtual 220, 3) := by decide +kernel
theorem dX12_press_164 : decode cX12_press 164 = .ok (.iconst 4, 1) := by decide +kernel
theorem dX12_press_165 : decode cX12_press 165 = .ok (.idiv, 1) := by decide +kernel
theorem dX12_press_166 : decode cX12_press 166 = .ok (.iadd, 1) := by decide +kernel
theorem dX12_press_167 : decode cX12_press 167 = .ok (.iload_n 2, 1) := by decide +kernel
theorem dX12_press_168 : decode cX12_press 168 = .ok (.iconst 3, 1) := by decide +kernel
theorem dX12_press_169 : decode cX12_press 169 = .ok (.idiv, 1) := by decide +kernel
theorem dX12_press_170 : decode cX12_press 170 = .ok (.isub, 1) := by decide +kernel
theorem dX12_press_171 : decode cX12_press 171 = .ok (.if_icmp .ge 7, 3) := by decide +kernel
theorem dX12_press_174 : decode cX12_press 174 = .ok (.iconst 1, 1) := by decide +kernel
theorem dX12_press_175 : decode cX12_press 175 = .ok (.goto 4, 3) := by decide +kernel
theorem dX12_press_178 : decode cX12_press 178 = .ok (.iconst 0, 1) := by decide +kernel
theorem dX12_press_179 : decode cX12_press 179 = .ok (.iadd, 1) := by decide +kernel
theorem dX12_press_180 : decode cX12_press 180 = .ok (.istore 6, 2) := by decide +kernel
theorem dX12_press_182 : decode cX12_press 182 = .ok (.aload 5, 2) := by decide +kernel
theorem dX12_press_184 : decode cX12_press 184 = .ok (.iconst 1, 1) := by decide +kernel
theorem dX12_press_185 : decode cX12_press 185 = .ok (.putfield 210, 3) := by decide +kernel
theorem dX12_press_188 : decode cX12_press 188 = .ok (.aload 5, 2) := by decide +kernel
theorem dX12_press_190 : decode cX12_press 190 = .ok (.aload_n 0, 1) := by decide +kernel
theorem dX12_press_191 : decode cX12_press 191 = .ok (.getfield 28, 3) := by decide +kernel
theorem dX12_press_194 : decode cX12_press 194 = .ok (.putfield 223, 3) := by decide +kernel
theorem dX12_press_197 : decode cX12_press 197 = .ok (.aload 5, 2) := by decide +kernel
theorem dX12_press_199 : decode cX12_press 199 = .ok (.iload 6, 2) := by decide +kernel
theorem dX12_press_201 : decode cX12_press 201 = .ok (.aload 5, 2) := by decide +kernel
theorem dX12_press_203 : decode cX12_press 203 = .ok (.getfield 186, 3) := by decide +kernel
theorem dX12_press_206 : decode cX12_press 206 = .ok (.getfield 161, 3) := by decide +kernel
theorem dX12_press_209 : decode cX12_press 209 = .ok (.imul, 1) := by decide +kernel
theorem dX12_press_210 : decode cX12_press 210 = .ok (.putfield 226, 3) := by decide +kernel
theorem dX12_press_213 : decode cX12_press 213 = .ok (.aload 5, 2) := by decide +kernel
theorem dX12_press_215 : decode cX12_press 215 = .ok (.getfield 226, 3) := by decide +kernel
theorem dX12_press_218 : decode cX12_press 218 = .ok (.ireturn, 1) := by decide +kernel
theorem dX12_slit_0 : decode cX12_slit 0 = .ok (.aload_n 0, 1) := by decide +kernel
theorem dX12_slit_1 : decode cX12_slit 1 = .ok (.invokevirtual 48, 3) := by decide +kernel
theorem dX12_slit_4 : decode cX12_slit 4 = .ok (.aload_n 0, 1) := by decide +kernel
theorem dX12_slit_5 : decode cX12_slit 5 = .ok (.iload_n 1, 1) := by decide +kernel
theorem dX12_slit_6 : decode cX12_slit 6 = .ok (.invokevirtual 171, 3) := by decide +kernel
theorem dX12_slit_9 : decode cX12_slit 9 = .ok (.ifCond .ne 35, 3) := by decide +kernel
theorem dX12_slit_12 : decode cX12_slit 12 = .ok (.aload_n 0, 1) := by decide +kernel
theorem dX12_slit_13 : decode cX12_slit 13 = .ok (.aload_n 0, 1) := by decide +kernel
theorem dX12_slit_14 : decode cX12_slit 14 = .ok (.getfield 19, 3) := by decide +kernel
theorem dX12_slit_17 : decode cX12_slit 17 = .ok (.iload_n 1, 1) := by decide +kernel
theorem dX12_slit_18 : decode cX12_slit 18 = .ok (.invokeinterface 90 2, 5) := by decide +kernel
theorem dX12_slit_23 : decode cX12_slit 23 = .ok (.checkcast 129, 3) := by decide +kernel
theorem dX12_slit_26 : decode cX12_slit 26 = .ok (.getfield 226, 3) := by decide +kernel
theorem dX12_slit_29 : decode cX12_slit 29 = .ok (.ifCond .ne 7, 3) := by decide +kernel
theorem dX12_slit_32 : decode cX12_slit 32 = .ok (.iconst 1, 1) := by decide +kernel
theorem dX12_slit_33 : decode cX12_slit 33 = .ok (.goto 4, 3) := by decide +kernel
theorem dX12_slit_36 : decode cX12_slit 36 = .ok (.iconst 0, 1) := by decide +kernel
theorem dX12_slit_37 : decode cX12_slit 37 = .ok (.iconst 2, 1) := by decide +kernel
theorem dX12_slit_38 : decode cX12_slit 38 = .ok (.invokevirtual 67, 3) := by decide +kernel
theorem dX12_slit_41 : decode cX12_slit 41 = .ok (.ifCond .eq 5, 3) := by decide +kernel
theorem dX12_slit_44 : decode cX12_slit 44 = .ok (.iconst (-1), 1) := by decide +kernel
theorem dX12_slit_45 : decode cX12_slit 45 = .ok (.ireturn, 1) := by decide +kernel
theorem dX12_slit_46 : decode cX12_slit 46 = .ok (.aload_n 0, 1) := by decide +kernel
theorem dX12_slit_47 : decode cX12_slit 47 = .ok (.getfield 19, 3) := by decide +kernel
theorem dX12_slit_50 : decode cX12_slit 50 = .ok (.iload_n 1, 1) := by decide +kernel
theorem dX12_slit_51 : decode cX12_slit 51 = .ok (.invokeinterface 90 2, 5) := by decide +kernel
theorem dX12_slit_56 : decode cX12_slit 56 = .ok (.checkcast 129, 3) := by decide +kernel
theorem dX12_slit_59 : decode cX12_slit 59 = .ok (.dup, 1) := by decide +kernel
theorem dX12_slit_60 : decode cX12_slit 60 = .ok (.getfield 226, 3) := by decide +kernel
theorem dX12_slit_63 : decode cX12_slit 63 = .ok (.iconst 1, 1) := by decide +kernel
theorem dX12_slit_64 : decode cX12_slit 64 = .ok (.isub, 1) := by decide +kernel
theorem dX12_slit_65 : decode cX12_slit 65 = .ok (.putfield 226, 3) := by decide +kernel
theorem dX12_slit_68 : decode cX12_slit 68 = .ok (.aload_n 0, 1) := by decide +kernel
theorem dX12_slit_69 : decode cX12_slit 69 = .ok (.getfield 19, 3) := by decide +kernel
theorem dX12_slit_72 : decode cX12_slit 72 = .ok (.iload_n 1, 1) := by decide +kernel
theorem dX12_slit_73 : decode cX12_slit 73 = .ok (.invokeinterface 90 2, 5) := by decide +kernel
theorem dX12_slit_78 : decode cX12_slit 78 = .ok (.checkcast 129, 3) := by decide +kernel
theorem dX12_slit_81 : decode cX12_slit 81 = .ok (.getfield 226, 3) := by decide +kernel
theorem dX12_slit_84 : decode cX12_slit 84 = .ok (.ireturn, 1) := by decide +kernel
theorem dX12_air_0 : decode cX12_air 0 = .ok (.aload_n 0, 1) := by decide +kernel
theorem dX12_air_1 : decode cX12_air 1 = .ok (.invokevirtual 48, 3) := by decide +kernel
theorem dX12_air_4 : decode cX12_air 4 = .ok (.aload_n 0, 1) := by decide +kernel
theorem dX12_air_5 : decode cX12_air 5 = .ok (.iload_n 1, 1) := by decide +kernel
theorem dX12_air_6 : decode cX12_air 6 = .ok (.i2l, 1) := by decide +kernel
theorem dX12_air_7 : decode cX12_air 7 = .ok (.ldc2_w 229, 3) := by decide +kernel
theorem dX12_air_10 : decode cX12_air 10 = .ok (.ldc2_w 125, 3) := by decide +kernel
theorem dX12_air_13 : decode cX12_air 13 = .ok (.invokestatic 44, 3) := by decide +kernel
theorem dX12_air_16 : decode cX12_air 16 = .ok (.ifCond .ne 7, 3) := by decide +kernel
theorem dX12_air_19 : decode cX12_air 19 = .ok (.iconst 1, 1) := by decide +kernel
theorem dX12_air_20 : decode cX12_air 20 = .ok (.goto 4, 3) := by decide +kernel
theorem dX12_air_23 : decode cX12_air 23 = .ok (.iconst 0, 1) := by decide +kernel
theorem dX12_air_24 : decode cX12_air 24 = .ok (.iconst 1, 1) := by decide +kernel
theorem dX12_air_25 : decode cX12_air 25 = .ok (.invokevirtual 67, 3) := by decide +kernel
theorem dX12_air_28 : decode cX12_air 28 = .ok (.ifCond .eq 5, 3) := by decide +kernel
theorem dX12_air_31 : decode cX12_air 31 = .ok (.iconst (-1), 1) := by decide +kernel
theorem dX12_air_32 : decode cX12_air 32 = .ok (.ireturn, 1) := by decide +kernel
theorem dX12_air_33 : decode cX12_air 33 = .ok (.aload_n 0, 1) := by decide +kernel
theorem dX12_air_34 : decode cX12_air 34 = .ok (.getfield 28, 3) := by decide +kernel
theorem dX12_air_37 : decode cX12_air 37 = .ok (.istore_n 2, 1) := by decide +kernel
theorem dX12_air_38 : decode cX12_air 38 = .ok (.aload_n 0, 1) := by decide +kernel
theorem dX12_air_39 : decode cX12_air 39 = .ok (.iload_n 1, 1) := by decide +kernel
theorem dX12_air_40 : decode cX12_air 40 = .ok (.putfield 28, 3) := by decide +kernel
theorem dX12_air_43 : decode cX12_air 43 = .ok (.iload_n 2, 1) := by decide +kernel
theorem dX12_air_44 : decode cX12_air 44 = .ok (.ireturn, 1) := by decide +kernel
theorem dX12_pull_0 : decode cX12_pull 0 = .ok (.aload_n 0, 1) := by decide +kernel
theorem dX12_pull_1 : decode cX12_pull 1 = .ok (.ifnonnull 7, 3) := by decide +kernel
theorem dX12_pull_4 : decode cX12_pull 4 = .ok (.iconst 0, 1) := by decide +kernel
theorem dX12_pull_5 : decode cX12_pull 5 = .ok (.goto 27, 3) := by decide +kernel
theorem dX12_pull_8 : decode cX12_pull 8 = .ok (.getstatic 231, 3) := by decide +kernel
theorem dX12_pull_11 : decode cX12_pull 11 = .ok (.aload_n 0, 1) := by decide +kernel
theorem dX12_pull_12 : decode cX12_pull 12 = .ok (.getfield 164, 3) := by decide +kernel
theorem dX12_pull_15 : decode cX12_pull 15 = .ok (.getfield 142, 3) := by decide +kernel
theorem dX12_pull_18 : decode cX12_pull 18 = .ok (.getfield 235, 3) := by decide +kernel
theorem dX12_pull_21 : decode cX12_pull 21 = .ok (.iaload, 1) := by decide +kernel
theorem dX12_pull_22 : decode cX12_pull 22 = .ok (.aload_n 0, 1) := by decide +kernel
theorem dX12_pull_23 : decode cX12_pull 23 = .ok (.getfield 164, 3) := by decide +kernel
theorem dX12_pull_26 : decode cX12_pull 26 = .ok (.getfield 238, 3) := by decide +kernel
theorem dX12_pull_29 : decode cX12_pull 29 = .ok (.imul, 1) := by decide +kernel
theorem dX12_pull_30 : decode cX12_pull 30 = .ok (.iload_n 1, 1) := by decide +kernel
theorem dX12_pull_31 : decode cX12_pull 31 = .ok (.imul, 1) := by decide +kernel
theorem dX12_pull_32 : decode cX12_pull 32 = .ok (.ireturn, 1) := by decide +kernel
theorem dX12_cupOf_0 : decode cX12_cupOf 0 = .ok (.iload_n 1, 1) := by decide +kernel
theorem dX12_cupOf_1 : decode cX12_cupOf 1 = .ok (.aload_n 0, 1) := by decide +kernel
theorem dX12_cupOf_2 : decode cX12_cupOf 2 = .ok (.getfield 223, 3) := by decide +kernel
theorem dX12_cupOf_5 : decode cX12_cupOf 5 = .ok (.isub, 1) := by decide +kernel
theorem dX12_cupOf_6 : decode cX12_cupOf 6 = .ok (.istore_n 2, 1) := by decide +kernel
theorem dX12_cupOf_7 : decode cX12_cupOf 7 = .ok (.bipush 10, 2) := by decide +kernel
theorem dX12_cupOf_9 : decode cX12_cupOf 9 = .ok (.aload_n 0, 1) := by decide +kernel
theorem dX12_cupOf_10 : decode cX12_cupOf 10 = .ok (.getfield 186, 3) := by decide +kernel
theorem dX12_cupOf_13 : decode cX12_cupOf 13 = .ok (.iload_n 2, 1) := by decide +kernel
theorem dX12_cupOf_14 : decode cX12_cupOf 14 = .ok (.invokestatic 241, 3) := by decide +kernel
theorem dX12_cupOf_17 : decode cX12_cupOf 17 = .ok (.aload_n 0, 1) := by decide +kernel
theorem dX12_cupOf_18 : decode cX12_cupOf 18 = .ok (.getfield 207, 3) := by decide +kernel
theorem dX12_cupOf_21 : decode cX12_cupOf 21 = .ok (.iload_n 2, 1) := by decide +kernel
theorem dX12_cupOf_22 : decode cX12_cupOf 22 = .ok (.invokestatic 241, 3) := by decide +kernel
theorem dX12_cupOf_25 : decode cX12_cupOf 25 = .ok (.isub, 1) := by decide +kernel
theorem dX12_cupOf_26 : decode cX12_cupOf 26 = .ok (.imul, 1) := by decide +kernel
theorem dX12_cupOf_27 : decode cX12_cupOf 27 = .ok (.aload_n 0, 1) := by decide +kernel
theorem dX12_cupOf_28 : decode cX12_cupOf 28 = .ok (.getfield 245, 3) := by decide +kernel
theorem dX12_cupOf_31 : decode cX12_cupOf 31 = .ok (.idiv, 1) := by decide +kernel
theorem dX12_cupOf_32 : decode cX12_cupOf 32 = .ok (.ireturn, 1) := by decide +kernel
theorem dX12_isFlat_0 : decode cX12_isFlat 0 = .ok (.aload_n 0, 1) := by decide +kernel
theorem dX12_isFlat_1 : decode cX12_isFlat 1 = .ok (.iload_n 1, 1) := by decide +kernel
theorem dX12_isFlat_2 : decode cX12_isFlat 2 = .ok (.invokestatic 248, 3) := by decide +kernel
theorem dX12_isFlat_5 : decode cX12_isFlat 5 = .ok (.i2l, 1) := by decide +kernel
theorem dX12_isFlat_6 : decode cX12_isFlat 6 = .ok (.ldc2_w 251, 3) := by decide +kernel
theorem dX12_isFlat_9 : decode cX12_isFlat 9 = .ok (.ldc2_w 253, 3) := by decide +kernel
theorem dX12_isFlat_12 : decode cX12_isFlat 12 = .ok (.invokestatic 44, 3) := by decide +kernel
theorem dX12_isFlat_15 : decode cX12_isFlat 15 = .ok (.ireturn, 1) := by decide +kernel
theorem dX12_cup_0 : decode cX12_cup 0 = .ok (.aload_n 0, 1) := by decide +kernel
theorem dX12_cup_1 : decode cX12_cup 1 = .ok (.invokevirtual 48, 3) := by decide +kernel
theorem dX12_cup_4 : decode cX12_cup 4 = .ok (.aload_n 0, 1) := by decide +kernel
theorem dX12_cup_5 : decode cX12_cup 5 = .ok (.iload_n 1, 1) := by decide +kernel
theorem dX12_cup_6 : decode cX12_cup 6 = .ok (.invokevirtual 171, 3) := by decide +kernel
theorem dX12_cup_9 : decode cX12_cup 9 = .ok (.ifCond .ne 62, 3) := by decide +kernel
theorem dX12_cup_12 : decode cX12_cup 12 = .ok (.aload_n 0, 1) := by decide +kernel
theorem dX12_cup_13 : decode cX12_cup 13 = .ok (.iload_n 2, 1) := by decide +kernel
theorem dX12_cup_14 : decode cX12_cup 14 = .ok (.i2l, 1) := by decide +kernel
theorem dX12_cup_15 : decode cX12_cup 15 = .ok (.ldc2_w 229, 3) := by decide +kernel
theorem dX12_cup_18 : decode cX12_cup 18 = .ok (.ldc2_w 125, 3) := by decide +kernel
theorem dX12_cup_21 : decode cX12_cup 21 = .ok (.invokestatic 44, 3) := by decide +kernel
theorem dX12_cup_24 : decode cX12_cup 24 = .ok (.ifCond .ne 7, 3) := by decide +kernel
theorem dX12_cup_27 : decode cX12_cup 27 = .ok (.iconst 1, 1) := by decide +kernel
theorem dX12_cup_28 : decode cX12_cup 28 = .ok (.goto 4, 3) := by decide +kernel
theorem dX12_cup_31 : decode cX12_cup 31 = .ok (.iconst 0, 1) := by decide +kernel
theorem dX12_cup_32 : decode cX12_cup 32 = .ok (.iconst 2, 1) := by decide +kernel
theorem dX12_cup_33 : decode cX12_cup 33 = .ok (.invokevirtual 67, 3) := by decide +kernel
theorem dX12_cup_36 : decode cX12_cup 36 = .ok (.ifCond .ne 35, 3) := by decide +kernel
theorem dX12_cup_39 : decode cX12_cup 39 = .ok (.aload_n 0, 1) := by decide +kernel
theorem dX12_cup_40 : decode cX12_cup 40 = .ok (.aload_n 0, 1) := by decide +kernel
theorem dX12_cup_41 : decode cX12_cup 41 = .ok (.getfield 19, 3) := by decide +kernel
theorem dX12_cup_44 : decode cX12_cup 44 = .ok (.iload_n 1, 1) := by decide +kernel
theorem dX12_cup_45 : decode cX12_cup 45 = .ok (.invokeinterface 90 2, 5) := by decide +kernel
theorem dX12_cup_50 : decode cX12_cup 50 = .ok (.checkcast 129, 3) := by decide +kernel
theorem dX12_cup_53 : decode cX12_cup 53 = .ok (.getfield 210, 3) := by decide +kernel
theorem dX12_cup_56 : decode cX12_cup 56 = .ok (.ifCond .ne 7, 3) := by decide +kernel
theorem dX12_cup_59 : decode cX12_cup 59 = .ok (.iconst 1, 1) := by decide +kernel
theorem dX12_cup_60 : decode cX12_cup 60 = .ok (.goto 4, 3) := by decide +kernel
theorem dX12_cup_63 : decode cX12_cup 63 = .ok (.iconst 0, 1) := by decide +kernel
theorem dX12_cup_64 : decode cX12_cup 64 = .ok (.iconst 3, 1) := by decide +kernel
theorem dX12_cup_65 : decode cX12_cup 65 = .ok (.invokevirtual 67, 3) := by decide +kernel
theorem dX12_cup_68 : decode cX12_cup 68 = .ok (.ifCond .eq 7, 3) := by decide +kernel
theorem dX12_cup_71 : decode cX12_cup 71 = .ok (.iconst (-1), 1) := by decide +kernel
theorem dX12_cup_72 : decode cX12_cup 72 = .ok (.goto 20, 3) := by decide +kernel
theorem dX12_cup_75 : decode cX12_cup 75 = .ok (.aload_n 0, 1) := by decide +kernel
theorem dX12_cup_76 : decode cX12_cup 76 = .ok (.getfield 19, 3) := by decide +kernel
theorem dX12_cup_79 : decode cX12_cup 79 = .ok (.iload_n 1, 1) := by decide +kernel
theorem dX12_cup_80 : decode cX12_cup 80 = .ok (.invokeinterface 90 2, 5) := by decide +kernel
theorem dX12_cup_85 : decode cX12_cup 85 = .ok (.checkcast 129, 3) := by decide +kernel
theorem dX12_cup_88 : decode cX12_cup 88 = .ok (.iload_n 2, 1) := by decide +kernel
theorem dX12_cup_89 : decode cX12_cup 89 = .ok (.invokestatic 248, 3) := by decide +kernel
theorem dX12_cup_92 : decode cX12_cup 92 = .ok (.ireturn, 1) := by decide +kernel
theorem dX12_isFlat__0 : decode cX12_isFlat_ 0 = .ok (.aload_n 0, 1) := by decide +kernel
theorem dX12_isFlat__1 : decode cX12_isFlat_ 1 = .ok (.invokevirtual 48, 3) := by decide +kernel
theorem dX12_isFlat__4 : decode cX12_isFlat_ 4 = .ok (.aload_n 0, 1) := by decide +kernel
theorem dX12_isFlat__5 : decode cX12_isFlat_ 5 = .ok (.iload_n 1, 1) := by decide +kernel
theorem dX12_isFlat__6 : decode cX12_isFlat_ 6 = .ok (.invokevirtual 171, 3) := by decide +kernel
theorem dX12_isFlat__9 : decode cX12_isFlat_ 9 = .ok (.ifCond .ne 62, 3) := by decide +kernel
theorem dX12_isFlat__12 : decode cX12_isFlat_ 12 = .ok (.aload_n 0, 1) := by decide +kernel
theorem dX12_isFlat__13 : decode cX12_isFlat_ 13 = .ok (.aload_n 0, 1) := by decide +kernel
theorem dX12_isFlat__14 : decode cX12_isFlat_ 14 = .ok (.getfield 19, 3) := by decide +kernel
theorem dX12_isFlat__17 : decode cX12_isFlat_ 17 = .ok (.iload_n 1, 1) := by decide +kernel
theorem dX12_isFlat__18 : decode cX12_isFlat_ 18 = .ok (.invokeinterface 90 2, 5) := by decide +kernel
theorem dX12_isFlat__23 : decode cX12_isFlat_ 23 = .ok (.checkcast 129, 3) := by decide +kernel
theorem dX12_isFlat__26 : decode cX12_isFlat_ 26 = .ok (.getfield 210, 3) := by decide +kernel
theorem dX12_isFlat__29 : decode cX12_isFlat_ 29 = .ok (.ifCond .ne 7, 3) := by decide +kernel
theorem dX12_isFlat__32 : decode cX12_isFlat_ 32 = .ok (.iconst 1, 1) := by decide +kernel
theorem dX12_isFlat__33 : decode cX12_isFlat_ 33 = .ok (.goto 4, 3) := by decide +kernel
theorem dX12_isFlat__36 : decode cX12_isFlat_ 36 = .ok (.iconst 0, 1) := by decide +kernel
theorem dX12_isFlat__37 : decode cX12_isFlat_ 37 = .ok (.iconst 2, 1) := by decide +kernel
theorem dX12_isFlat__38 : decode cX12_isFlat_ 38 = .ok (.invokevirtual 67, 3) := by decide +kernel
theorem dX12_isFlat__41 : decode cX12_isFlat_ 41 = .ok (.ifCond .ne 30, 3) := by decide +kernel
theorem dX12_isFlat__44 : decode cX12_isFlat_ 44 = .ok (.aload_n 0, 1) := by decide +kernel
theorem dX12_isFlat__45 : decode cX12_isFlat_ 45 = .ok (.getfield 19, 3) := by decide +kernel
theorem dX12_isFlat__48 : decode cX12_isFlat_ 48 = .ok (.iload_n 1, 1) := by decide +kernel
theorem dX12_isFlat__49 : decode cX12_isFlat_ 49 = .ok (.invokeinterface 90 2, 5) := by decide +kernel
theorem dX12_isFlat__54 : decode cX12_isFlat_ 54 = .ok (.checkcast 129, 3) := by decide +kernel
theorem dX12_isFlat__57 : decode cX12_isFlat_ 57 = .ok (.aload_n 0, 1) := by decide +kernel
theorem dX12_isFlat__58 : decode cX12_isFlat_ 58 = .ok (.getfield 28, 3) := by decide +kernel
theorem dX12_isFlat__61 : decode cX12_isFlat_ 61 = .ok (.invokestatic 255, 3) := by decide +kernel
theorem dX12_isFlat__64 : decode cX12_isFlat_ 64 = .ok (.ifCond .eq 7, 3) := by decide +kernel
theorem dX12_isFlat__67 : decode cX12_isFlat_ 67 = .ok (.iconst 1, 1) := by decide +kernel
theorem dX12_isFlat__68 : decode cX12_isFlat_ 68 = .ok (.goto 4, 3) := by decide +kernel
theorem dX12_isFlat__71 : decode cX12_isFlat_ 71 = .ok (.iconst 0, 1) := by decide +kernel
theorem dX12_isFlat__72 : decode cX12_isFlat_ 72 = .ok (.ireturn, 1) := by decide +kernel
theorem dX12_cupMonth_0 : decode cX12_cupMonth 0 = .ok (.aload_n 0, 1) := by decide +kernel
theorem dX12_cupMonth_1 : decode cX12_cupMonth 1 = .ok (.invokevirtual 48, 3) := by decide +kernel
theorem dX12_cupMonth_4 : decode cX12_cupMonth 4 = .ok (.aload_n 0, 1) := by decide +kernel
theorem dX12_cupMonth_5 : decode cX12_cupMonth 5 = .ok (.iload_n 1, 1) := by decide +kernel
theorem dX12_cupMonth_6 : decode cX12_cupMonth 6 = .ok (.invokevirtual 171, 3) := by decide +kernel
theorem dX12_cupMonth_9 : decode cX12_cupMonth 9 = .ok (.ifCond .ne 35, 3) := by decide +kernel
theorem dX12_cupMonth_12 : decode cX12_cupMonth 12 = .ok (.aload_n 0, 1) := by decide +kernel
theorem dX12_cupMonth_13 : decode cX12_cupMonth 13 = .ok (.aload_n 0, 1) := by decide +kernel
theorem dX12_cupMonth_14 : decode cX12_cupMonth 14 = .ok (.getfield 19, 3) := by decide +kernel
theorem dX12_cupMonth_17 : decode cX12_cupMonth 17 = .ok (.iload_n 1, 1) := by decide +kernel
theorem dX12_cupMonth_18 : decode cX12_cupMonth 18 = .ok (.invokeinterface 90 2, 5) := by decide +kernel
theorem dX12_cupMonth_23 : decode cX12_cupMonth 23 = .ok (.checkcast 129, 3) := by decide +kernel
theorem dX12_cupMonth_26 : decode cX12_cupMonth 26 = .ok (.getfield 210, 3) := by decide +kernel
theorem dX12_cupMonth_29 : decode cX12_cupMonth 29 = .ok (.ifCond .ne 7, 3) := by decide +kernel
theorem dX12_cupMonth_32 : decode cX12_cupMonth 32 = .ok (.iconst 1, 1) := by decide +kernel
theorem dX12_cupMonth_33 : decode cX12_cupMonth 33 = .ok (.goto 4, 3) := by decide +kernel
theorem dX12_cupMonth_36 : decode cX12_cupMonth 36 = .ok (.iconst 0, 1) := by decide +kernel
theorem dX12_cupMonth_37 : decode cX12_cupMonth 37 = .ok (.iconst 2, 1) := by decide +kernel
theorem dX12_cupMonth_38 : decode cX12_cupMonth 38 = .ok (.invokevirtual 67, 3) := by decide +kernel
theorem dX12_cupMonth_41 : decode cX12_cupMonth 41 = .ok (.ifCond .eq 5, 3) := by decide +kernel
theorem dX12_cupMonth_44 : decode cX12_cupMonth 44 = .ok (.iconst (-1), 1) := by decide +kernel
theorem dX12_cupMonth_45 : decode cX12_cupMonth 45 = .ok (.ireturn, 1) := by decide +kernel
theorem dX12_cupMonth_46 : decode cX12_cupMonth 46 = .ok (.iconst (-1), 1) := by decide +kernel
theorem dX12_cupMonth_47 : decode cX12_cupMonth 47 = .ok (.istore_n 2, 1) := by decide +kernel
theorem dX12_cupMonth_48 : decode cX12_cupMonth 48 = .ok (.bipush 11, 2) := by decide +kernel
theorem dX12_cupMonth_50 : decode cX12_cupMonth 50 = .ok (.istore_n 3, 1) := by decide +kernel
theorem dX12_cupMonth_51 : decode cX12_cupMonth 51 = .ok (.iload_n 3, 1) := by decide +kernel
theorem dX12_cupMonth_52 : decode cX12_cupMonth 52 = .ok (.ifCond .lt 57, 3) := by decide +kernel
theorem dX12_cupMonth_55 : decode cX12_cupMonth 55 = .ok (.iconst 4, 1) := by decide +kernel
theorem dX12_cupMonth_56 : decode cX12_cupMonth 56 = .ok (.bipush 20, 2) := by decide +kernel
theorem dX12_cupMonth_58 : decode cX12_cupMonth 58 = .ok (.aload_n 0, 1) := by decide +kernel
theorem dX12_cupMonth_59 : decode cX12_cupMonth 59 = .ok (.getfield 28, 3) := by decide +kernel
theorem dX12_cupMonth_62 : decode cX12_cupMonth 62 = .ok (.getstatic 259, 3) := by decide +kernel
theorem dX12_cupMonth_65 : decode cX12_cupMonth 65 = .ok (.iload_n 3, 1) := by decide +kernel
theorem dX12_cupMonth_66 : decode cX12_cupMonth 66 = .ok (.iaload, 1) := by decide +kernel
theorem dX12_cupMonth_67 : decode cX12_cupMonth 67 = .ok (.iadd, 1) := by decide +kernel
theorem dX12_cupMonth_68 : decode cX12_cupMonth 68 = .ok (.invokestatic 262, 3) := by decide +kernel
theorem dX12_cupMonth_71 : decode cX12_cupMonth 71 = .ok (.invokestatic 268, 3) := by decide +kernel
theorem dX12_cupMonth_74 : decode cX12_cupMonth 74 = .ok (.istore 4, 2) := by decide +kernel
theorem dX12_cupMonth_76 : decode cX12_cupMonth 76 = .ok (.aload_n 0, 1) := by decide +kernel
theorem dX12_cupMonth_77 : decode cX12_cupMonth 77 = .ok (.getfield 19, 3) := by decide +kernel
theorem dX12_cupMonth_80 : decode cX12_cupMonth 80 = .ok (.iload_n 1, 1) := by decide +kernel
theorem dX12_cupMonth_81 : decode cX12_cupMonth 81 = .ok (.invokeinterface 90 2, 5) := by decide +kernel
theorem dX12_cupMonth_86 : decode cX12_cupMonth 86 = .ok (.checkcast 129, 3) := by decide +kernel
theorem dX12_cupMonth_89 : decode cX12_cupMonth 89 = .ok (.iload 4, 2) := by decide +kernel
theorem dX12_cupMonth_91 : decode cX12_cupMonth 91 = .ok (.invokestatic 255, 3) := by decide +kernel
theorem dX12_cupMonth_94 : decode cX12_cupMonth 94 = .ok (.ifCond .eq 7, 3) := by decide +kernel
theorem dX12_cupMonth_97 : decode cX12_cupMonth 97 = .ok (.iload_n 2, 1) := by decide +kernel
theorem dX12_cupMonth_98 : decode cX12_cupMonth 98 = .ok (.goto 4, 3) := by decide +kernel
theorem dX12_cupMonth_101 : decode cX12_cupMonth 101 = .ok (.iload_n 3, 1) := by decide +kernel
theorem dX12_cupMonth_102 : decode cX12_cupMonth 102 = .ok (.istore_n 2, 1) := by decide +kernel
theorem dX12_cupMonth_103 : decode cX12_cupMonth 103 = .ok (.iinc 3 (-1), 3) := by decide +kernel
theorem dX12_cupMonth_106 : decode cX12_cupMonth 106 = .ok (.goto (-55), 3) := by decide +kernel
theorem dX12_cupMonth_109 : decode cX12_cupMonth 109 = .ok (.aload_n 0, 1) := by decide +kernel
theorem dX12_cupMonth_110 : decode cX12_cupMonth 110 = .ok (.iload_n 2, 1) := by decide +kernel
theorem dX12_cupMonth_111 : decode cX12_cupMonth 111 = .ok (.iconst (-1), 1) := by decide +kernel
theorem dX12_cupMonth_112 : decode cX12_cupMonth 112 = .ok (.if_icmp .ne 7, 3) := by decide +kernel
theorem dX12_cupMonth_115 : decode cX12_cupMonth 115 = .ok (.iconst 1, 1) := by decide +kernel
theorem dX12_cupMonth_116 : decode cX12_cupMonth 116 = .ok (.goto 4, 3) := by decide +kernel
theorem dX12_cupMonth_119 : decode cX12_cupMonth 119 = .ok (.iconst 0, 1) := by decide +kernel
theorem dX12_cupMonth_120 : decode cX12_cupMonth 120 = .ok (.iconst 3, 1) := by decide +kernel
theorem dX12_cupMonth_121 : decode cX12_cupMonth 121 = .ok (.invokevirtual 67, 3) := by decide +kernel
theorem dX12_cupMonth_124 : decode cX12_cupMonth 124 = .ok (.ifCond .eq 7, 3) := by decide +kernel
theorem dX12_cupMonth_127 : decode cX12_cupMonth 127 = .ok (.iconst (-1), 1) := by decide +kernel
theorem dX12_cupMonth_128 : decode cX12_cupMonth 128 = .ok (.goto 4, 3) := by decide +kernel
theorem dX12_cupMonth_131 : decode cX12_cupMonth 131 = .ok (.iload_n 2, 1) := by decide +kernel
theorem dX12_cupMonth_132 : decode cX12_cupMonth 132 = .ok (.ireturn, 1) := by decide +kernel
theorem dX12_scrape_0 : decode cX12_scrape 0 = .ok (.aload_n 0, 1) := by decide +kernel
theorem dX12_scrape_1 : decode cX12_scrape 1 = .ok (.invokevirtual 48, 3) := by decide +kernel
theorem dX12_scrape_4 : decode cX12_scrape 4 = .ok (.aload_n 0, 1) := by decide +kernel
theorem dX12_scrape_5 : decode cX12_scrape 5 = .ok (.iload_n 1, 1) := by decide +kernel
theorem dX12_scrape_6 : decode cX12_scrape 6 = .ok (.invokevirtual 171, 3) := by decide +kernel
theorem dX12_scrape_9 : decode cX12_scrape 9 = .ok (.ifCond .ne 81, 3) := by decide +kernel
theorem dX12_scrape_12 : decode cX12_scrape 12 = .ok (.aload_n 0, 1) := by decide +kernel
theorem dX12_scrape_13 : decode cX12_scrape 13 = .ok (.iload_n 2, 1) := by decide +kernel
theorem dX12_scrape_14 : decode cX12_scrape 14 = .ok (.i2l, 1) := by decide +kernel
theorem dX12_scrape_15 : decode cX12_scrape 15 = .ok (.lconst 1, 1) := by decide +kernel
theorem dX12_scrape_16 : decode cX12_scrape 16 = .ok (.ldc2_w 218, 3) := by decide +kernel
theorem dX12_scrape_19 : decode cX12_scrape 19 = .ok (.invokestatic 44, 3) := by decide +kernel
theorem dX12_scrape_22 : decode cX12_scrape 22 = .ok (.ifCond .ne 7, 3) := by decide +kernel
theorem dX12_scrape_25 : decode cX12_scrape 25 = .ok (.iconst 1, 1) := by decide +kernel
theorem dX12_scrape_26 : decode cX12_scrape 26 = .ok (.goto 4, 3) := by decide +kernel
theorem dX12_scrape_29 : decode cX12_scrape 29 = .ok (.iconst 0, 1) := by decide +kernel
theorem dX12_scrape_30 : decode cX12_scrape 30 = .ok (.iconst 2, 1) := by decide +kernel
theorem dX12_scrape_31 : decode cX12_scrape 31 = .ok (.invokevirtual 67, 3) := by decide +kernel
theorem dX12_scrape_34 : decode cX12_scrape 34 = .ok (.ifCond .ne 56, 3) := by decide +kernel
theorem dX12_scrape_37 : decode cX12_scrape 37 = .ok (.aload_n 0, 1) := by decide +kernel
theorem dX12_scrape_38 : decode cX12_scrape 38 = .ok (.aload_n 0, 1) := by decide +kernel
theorem dX12_scrape_39 : decode cX12_scrape 39 = .ok (.getfield 19, 3) := by decide +kernel
theorem dX12_scrape_42 : decode cX12_scrape 42 = .ok (.iload_n 1, 1) := by decide +kernel
theorem dX12_scrape_43 : decode cX12_scrape 43 = .ok (.invokeinterface 90 2, 5) := by decide +kernel
theorem dX12_scrape_48 : decode cX12_scrape 48 = .ok (.checkcast 129, 3) := by decide +kernel
theorem dX12_scrape_51 : decode cX12_scrape 51 = .ok (.getfield 210, 3) := by decide +kernel
theorem dX12_scrape_54 : decode cX12_scrape 54 = .ok (.ifCond .eq 24, 3) := by decide +kernel
theorem dX12_scrape_57 : decode cX12_scrape 57 = .ok (.aload_n 0, 1) := by decide +kernel
theorem dX12_scrape_58 : decode cX12_scrape 58 = .ok (.getfield 19, 3) := by decide +kernel
theorem dX12_scrape_61 : decode cX12_scrape 61 = .ok (.iload_n 1, 1) := by decide +kernel
theorem dX12_scrape_62 : decode cX12_scrape 62 = .ok (.invokeinterface 90 2, 5) := by decide +kernel
theorem dX12_scrape_67 : decode cX12_scrape 67 = .ok (.checkcast 129, 3) := by decide +kernel
theorem dX12_scrape_70 : decode cX12_scrape 70 = .ok (.invokevirtual 271, 3) := by decide +kernel
theorem dX12_scrape_73 : decode cX12_scrape 73 = .ok (.bipush 10, 2) := by decide +kernel
theorem dX12_scrape_75 : decode cX12_scrape 75 = .ok (.if_icmp .gt 7, 3) := by decide +kernel
theorem dX12_scrape_78 : decode cX12_scrape 78 = .ok (.iconst 1, 1) := by decide +kernel
theorem dX12_scrape_79 : decode cX12_scrape 79 = .ok (.goto 4, 3) := by decide +kernel
theorem dX12_scrape_82 : decode cX12_scrape 82 = .ok (.iconst 0, 1) := by decide +kernel
theorem dX12_scrape_83 : decode cX12_scrape 83 = .ok (.iconst 3, 1) := by decide +kernel
theorem dX12_scrape_84 : decode cX12_scrape 84 = .ok (.invokevirtual 67, 3) := by decide +kernel
theorem dX12_scrape_87 : decode cX12_scrape 87 = .ok (.ifCond .eq 5, 3) := by decide +kernel
theorem dX12_scrape_90 : decode cX12_scrape 90 = .ok (.iconst (-1), 1) := by decide +kernel
theorem dX12_scrape_91 : decode cX12_scrape 91 = .ok (.ireturn, 1) := by decide +kernel
theorem dX12_scrape_92 : decode cX12_scrape 92 = .ok (.aload_n 0, 1) := by decide +kernel
theorem dX12_scrape_93 : decode cX12_scrape 93 = .ok (.getfield 19, 3) := by decide +kernel
theorem dX12_scrape_96 : decode cX12_scrape 96 = .ok (.iload_n 1, 1) := by decide +kernel
theorem dX12_scrape_97 : decode cX12_scrape 97 = .ok (.invokeinterface 90 2, 5) := by decide +kernel
theorem dX12_scrape_102 : decode cX12_scrape 102 = .ok (.checkcast 129, 3) := by decide +kernel
theorem dX12_scrape_105 : decode cX12_scrape 105 = .ok (.dup, 1) := by decide +kernel
theorem dX12_scrape_106 : decode cX12_scrape 106 = .ok (.getfield 274, 3) := by decide +kernel
theorem dX12_scrape_109 : decode cX12_scrape 109 = .ok (.iload_n 2, 1) := by decide +kernel
theorem dX12_scrape_110 : decode cX12_scrape 110 = .ok (.iadd, 1) := by decide +kernel
theorem dX12_scrape_111 : decode cX12_scrape 111 = .ok (.putfield 274, 3) := by decide +kernel
theorem dX12_scrape_114 : decode cX12_scrape 114 = .ok (.aload_n 0, 1) := by decide +kernel
theorem dX12_scrape_115 : decode cX12_scrape 115 = .ok (.getfield 19, 3) := by decide +kernel
theorem dX12_scrape_118 : decode cX12_scrape 118 = .ok (.iload_n 1, 1) := by decide +kernel
theorem dX12_scrape_119 : decode cX12_scrape 119 = .ok (.invokeinterface 90 2, 5) := by decide +kernel
theorem dX12_scrape_124 : decode cX12_scrape 124 = .ok (.checkcast 129, 3) := by decide +kernel
theorem dX12_scrape_127 : decode cX12_scrape 127 = .ok (.invokevirtual 271, 3) := by decide +kernel
theorem dX12_scrape_130 : decode cX12_scrape 130 = .ok (.ireturn, 1) := by decide +kernel
theorem dX12_isThrough_0 : decode cX12_isThrough 0 = .ok (.aload_n 0, 1) := by decide +kernel
theorem dX12_isThrough_1 : decode cX12_isThrough 1 = .ok (.invokevirtual 48, 3) := by decide +kernel
theorem dX12_isThrough_4 : decode cX12_isThrough 4 = .ok (.aload_n 0, 1) := by decide +kernel
theorem dX12_isThrough_5 : decode cX12_isThrough 5 = .ok (.iload_n 1, 1) := by decide +kernel
theorem dX12_isThrough_6 : decode cX12_isThrough 6 = .ok (.invokevirtual 171, 3) := by decide +kernel
theorem dX12_isThrough_9 : decode cX12_isThrough 9 = .ok (.ifCond .ne 47, 3) := by decide +kernel
end
section
theorem dX12_isThrough_12 : decode cX12_isThrough 12 = .ok (.aload_n 0, 1) := by decide +kernel
theorem dX12_isThrough_13 : decode cX12_isThrough 13 = .ok (.getfield 19, 3) := by decide +kernel
theorem dX12_isThrough_16 : decode cX12_isThrough 16 = .ok (.iload_n 1, 1) := by decide +kernel
theorem dX12_isThrough_17 : decode cX12_isThrough 17 = .ok (.invokeinterface 90 2, 5) := by decide +kernel
theorem dX12_isThrough_22 : decode cX12_isThrough 22 = .ok (.checkcast 129, 3) := by decide +kernel
theorem dX12_isThrough_25 : decode cX12_isThrough 25 = .ok (.getfield 186, 3) := by decide +kernel
theorem dX12_isThrough_28 : decode cX12_isThrough 28 = .ok (.ifnull 28, 3) := by decide +kernel
theorem dX12_isThrough_31 : decode cX12_isThrough 31 = .ok (.aload_n 0, 1) := by decide +kernel
theorem dX12_isThrough_32 : decode cX12_isThrough 32 = .ok (.getfield 19, 3) := by decide +kernel
theorem dX12_isThrough_35 : decode cX12_isThrough 35 = .ok (.iload_n 1, 1) := by decide +kernel
theorem dX12_isThrough_36 : decode cX12_isThrough 36 = .ok (.invokeinterface 90 2, 5) := by decide +kernel
theorem dX12_isThrough_41 : decode cX12_isThrough 41 = .ok (.checkcast 129, 3) := by decide +kernel
theorem dX12_isThrough_44 : decode cX12_isThrough 44 = .ok (.invokevirtual 271, 3) := by decide +kernel
theorem dX12_isThrough_47 : decode cX12_isThrough 47 = .ok (.bipush 10, 2) := by decide +kernel
theorem dX12_isThrough_49 : decode cX12_isThrough 49 = .ok (.if_icmp .gt 7, 3) := by decide +kernel
theorem dX12_isThrough_52 : decode cX12_isThrough 52 = .ok (.iconst 1, 1) := by decide +kernel
theorem dX12_isThrough_53 : decode cX12_isThrough 53 = .ok (.goto 4, 3) := by decide +kernel
theorem dX12_isThrough_56 : decode cX12_isThrough 56 = .ok (.iconst 0, 1) := by decide +kernel
theorem dX12_isThrough_57 : decode cX12_isThrough 57 = .ok (.ireturn, 1) := by decide +kernel
theorem dX12_pad_0 : decode cX12_pad 0 = .ok (.aload_n 0, 1) := by decide +kernel
theorem dX12_pad_1 : decode cX12_pad 1 = .ok (.invokevirtual 48, 3) := by decide +kernel
theorem dX12_pad_4 : decode cX12_pad 4 = .ok (.aload_n 0, 1) := by decide +kernel
theorem dX12_pad_5 : decode cX12_pad 5 = .ok (.iload_n 1, 1) := by decide +kernel
theorem dX12_pad_6 : decode cX12_pad 6 = .ok (.invokevirtual 171, 3) := by decide +kernel
theorem dX12_pad_9 : decode cX12_pad 9 = .ok (.ifCond .ne 60, 3) := by decide +kernel
theorem dX12_pad_12 : decode cX12_pad 12 = .ok (.aload_n 0, 1) := by decide +kernel
theorem dX12_pad_13 : decode cX12_pad 13 = .ok (.iload_n 2, 1) := by decide +kernel
theorem dX12_pad_14 : decode cX12_pad 14 = .ok (.i2l, 1) := by decide +kernel
theorem dX12_pad_15 : decode cX12_pad 15 = .ok (.lconst 1, 1) := by decide +kernel
theorem dX12_pad_16 : decode cX12_pad 16 = .ok (.ldc2_w 277, 3) := by decide +kernel
theorem dX12_pad_19 : decode cX12_pad 19 = .ok (.invokestatic 44, 3) := by decide +kernel
theorem dX12_pad_22 : decode cX12_pad 22 = .ok (.ifCond .ne 7, 3) := by decide +kernel
theorem dX12_pad_25 : decode cX12_pad 25 = .ok (.iconst 1, 1) := by decide +kernel
theorem dX12_pad_26 : decode cX12_pad 26 = .ok (.goto 4, 3) := by decide +kernel
theorem dX12_pad_29 : decode cX12_pad 29 = .ok (.iconst 0, 1) := by decide +kernel
theorem dX12_pad_30 : decode cX12_pad 30 = .ok (.iconst 2, 1) := by decide +kernel
theorem dX12_pad_31 : decode cX12_pad 31 = .ok (.invokevirtual 67, 3) := by decide +kernel
theorem dX12_pad_34 : decode cX12_pad 34 = .ok (.ifCond .ne 35, 3) := by decide +kernel
theorem dX12_pad_37 : decode cX12_pad 37 = .ok (.aload_n 0, 1) := by decide +kernel
theorem dX12_pad_38 : decode cX12_pad 38 = .ok (.aload_n 0, 1) := by decide +kernel
theorem dX12_pad_39 : decode cX12_pad 39 = .ok (.getfield 19, 3) := by decide +kernel
theorem dX12_pad_42 : decode cX12_pad 42 = .ok (.iload_n 1, 1) := by decide +kernel
theorem dX12_pad_43 : decode cX12_pad 43 = .ok (.invokeinterface 90 2, 5) := by decide +kernel
theorem dX12_pad_48 : decode cX12_pad 48 = .ok (.checkcast 129, 3) := by decide +kernel
theorem dX12_pad_51 : decode cX12_pad 51 = .ok (.getfield 210, 3) := by decide +kernel
theorem dX12_pad_54 : decode cX12_pad 54 = .ok (.ifCond .ne 7, 3) := by decide +kernel
theorem dX12_pad_57 : decode cX12_pad 57 = .ok (.iconst 1, 1) := by decide +kernel
theorem dX12_pad_58 : decode cX12_pad 58 = .ok (.goto 4, 3) := by decide +kernel
theorem dX12_pad_61 : decode cX12_pad 61 = .ok (.iconst 0, 1) := by decide +kernel
theorem dX12_pad_62 : decode cX12_pad 62 = .ok (.iconst 3, 1) := by decide +kernel
theorem dX12_pad_63 : decode cX12_pad 63 = .ok (.invokevirtual 67, 3) := by decide +kernel
theorem dX12_pad_66 : decode cX12_pad 66 = .ok (.ifCond .eq 5, 3) := by decide +kernel
theorem dX12_pad_69 : decode cX12_pad 69 = .ok (.iconst (-1), 1) := by decide +kernel
theorem dX12_pad_70 : decode cX12_pad 70 = .ok (.ireturn, 1) := by decide +kernel
theorem dX12_pad_71 : decode cX12_pad 71 = .ok (.aload_n 0, 1) := by decide +kernel
theorem dX12_pad_72 : decode cX12_pad 72 = .ok (.getfield 19, 3) := by decide +kernel
theorem dX12_pad_75 : decode cX12_pad 75 = .ok (.iload_n 1, 1) := by decide +kernel
theorem dX12_pad_76 : decode cX12_pad 76 = .ok (.invokeinterface 90 2, 5) := by decide +kernel
theorem dX12_pad_81 : decode cX12_pad 81 = .ok (.checkcast 129, 3) := by decide +kernel
theorem dX12_pad_84 : decode cX12_pad 84 = .ok (.astore_n 3, 1) := by decide +kernel
theorem dX12_pad_85 : decode cX12_pad 85 = .ok (.iconst 0, 1) := by decide +kernel
theorem dX12_pad_86 : decode cX12_pad 86 = .ok (.istore 4, 2) := by decide +kernel
theorem dX12_pad_88 : decode cX12_pad 88 = .ok (.iload 4, 2) := by decide +kernel
theorem dX12_pad_90 : decode cX12_pad 90 = .ok (.iload_n 2, 1) := by decide +kernel
theorem dX12_pad_91 : decode cX12_pad 91 = .ok (.if_icmp .ge 71, 3) := by decide +kernel
theorem dX12_pad_94 : decode cX12_pad 94 = .ok (.aload_n 3, 1) := by decide +kernel
theorem dX12_pad_95 : decode cX12_pad 95 = .ok (.aload_n 3, 1) := by decide +kernel
theorem dX12_pad_96 : decode cX12_pad 96 = .ok (.getfield 279, 3) := by decide +kernel
theorem dX12_pad_99 : decode cX12_pad 99 = .ok (.iconst 3, 1) := by decide +kernel
theorem dX12_pad_100 : decode cX12_pad 100 = .ok (.if_icmp .ge 17, 3) := by decide +kernel
theorem dX12_pad_103 : decode cX12_pad 103 = .ok (.bipush 99, 2) := by decide +kernel
theorem dX12_pad_105 : decode cX12_pad 105 = .ok (.aload_n 3, 1) := by decide +kernel
theorem dX12_pad_106 : decode cX12_pad 106 = .ok (.getfield 282, 3) := by decide +kernel
theorem dX12_pad_109 : decode cX12_pad 109 = .ok (.iconst 2, 1) := by decide +kernel
theorem dX12_pad_110 : decode cX12_pad 110 = .ok (.iadd, 1) := by decide +kernel
theorem dX12_pad_111 : decode cX12_pad 111 = .ok (.invokestatic 262, 3) := by decide +kernel
theorem dX12_pad_114 : decode cX12_pad 114 = .ok (.goto 7, 3) := by decide +kernel
theorem dX12_pad_117 : decode cX12_pad 117 = .ok (.aload_n 3, 1) := by decide +kernel
theorem dX12_pad_118 : decode cX12_pad 118 = .ok (.getfield 282, 3) := by decide +kernel
theorem dX12_pad_121 : decode cX12_pad 121 = .ok (.putfield 282, 3) := by decide +kernel
theorem dX12_pad_124 : decode cX12_pad 124 = .ok (.aload_n 3, 1) := by decide +kernel
theorem dX12_pad_125 : decode cX12_pad 125 = .ok (.dup, 1) := by decide +kernel
theorem dX12_pad_126 : decode cX12_pad 126 = .ok (.getfield 285, 3) := by decide +kernel
theorem dX12_pad_129 : decode cX12_pad 129 = .ok (.aload_n 3, 1) := by decide +kernel
theorem dX12_pad_130 : decode cX12_pad 130 = .ok (.getfield 279, 3) := by decide +kernel
theorem dX12_pad_133 : decode cX12_pad 133 = .ok (.iconst 3, 1) := by decide +kernel
theorem dX12_pad_134 : decode cX12_pad 134 = .ok (.if_icmp .ge 7, 3) := by decide +kernel
theorem dX12_pad_137 : decode cX12_pad 137 = .ok (.iconst 0, 1) := by decide +kernel
theorem dX12_pad_138 : decode cX12_pad 138 = .ok (.goto 4, 3) := by decide +kernel
theorem dX12_pad_141 : decode cX12_pad 141 = .ok (.iconst 1, 1) := by decide +kernel
theorem dX12_pad_142 : decode cX12_pad 142 = .ok (.iadd, 1) := by decide +kernel
theorem dX12_pad_143 : decode cX12_pad 143 = .ok (.putfield 285, 3) := by decide +kernel
theorem dX12_pad_146 : decode cX12_pad 146 = .ok (.aload_n 3, 1) := by decide +kernel
theorem dX12_pad_147 : decode cX12_pad 147 = .ok (.dup, 1) := by decide +kernel
theorem dX12_pad_148 : decode cX12_pad 148 = .ok (.getfield 279, 3) := by decide +kernel
theorem dX12_pad_151 : decode cX12_pad 151 = .ok (.iconst 1, 1) := by decide +kernel
theorem dX12_pad_152 : decode cX12_pad 152 = .ok (.iadd, 1) := by decide +kernel
theorem dX12_pad_153 : decode cX12_pad 153 = .ok (.putfield 279, 3) := by decide +kernel
theorem dX12_pad_156 : decode cX12_pad 156 = .ok (.iinc 4 1, 3) := by decide +kernel
theorem dX12_pad_159 : decode cX12_pad 159 = .ok (.goto (-71), 3) := by decide +kernel
theorem dX12_pad_162 : decode cX12_pad 162 = .ok (.aload_n 3, 1) := by decide +kernel
theorem dX12_pad_163 : decode cX12_pad 163 = .ok (.getfield 282, 3) := by decide +kernel
theorem dX12_pad_166 : decode cX12_pad 166 = .ok (.ireturn, 1) := by decide +kernel
theorem dX12_rest_0 : decode cX12_rest 0 = .ok (.aload_n 0, 1) := by decide +kernel
theorem dX12_rest_1 : decode cX12_rest 1 = .ok (.invokevirtual 48, 3) := by decide +kernel
theorem dX12_rest_4 : decode cX12_rest 4 = .ok (.iconst 0, 1) := by decide +kernel
theorem dX12_rest_5 : decode cX12_rest 5 = .ok (.istore_n 1, 1) := by decide +kernel
theorem dX12_rest_6 : decode cX12_rest 6 = .ok (.aload_n 0, 1) := by decide +kernel
theorem dX12_rest_7 : decode cX12_rest 7 = .ok (.getfield 19, 3) := by decide +kernel
theorem dX12_rest_10 : decode cX12_rest 10 = .ok (.invokeinterface 288 1, 5) := by decide +kernel
theorem dX12_rest_15 : decode cX12_rest 15 = .ok (.astore_n 2, 1) := by decide +kernel
theorem dX12_rest_16 : decode cX12_rest 16 = .ok (.aload_n 2, 1) := by decide +kernel
theorem dX12_rest_17 : decode cX12_rest 17 = .ok (.invokeinterface 292 1, 5) := by decide +kernel
theorem dX12_rest_22 : decode cX12_rest 22 = .ok (.ifCond .eq 36, 3) := by decide +kernel
theorem dX12_rest_25 : decode cX12_rest 25 = .ok (.aload_n 2, 1) := by decide +kernel
theorem dX12_rest_26 : decode cX12_rest 26 = .ok (.invokeinterface 298 1, 5) := by decide +kernel
theorem dX12_rest_31 : decode cX12_rest 31 = .ok (.checkcast 129, 3) := by decide +kernel
theorem dX12_rest_34 : decode cX12_rest 34 = .ok (.astore_n 3, 1) := by decide +kernel
theorem dX12_rest_35 : decode cX12_rest 35 = .ok (.iload_n 1, 1) := by decide +kernel
theorem dX12_rest_36 : decode cX12_rest 36 = .ok (.aload_n 3, 1) := by decide +kernel
theorem dX12_rest_37 : decode cX12_rest 37 = .ok (.getfield 279, 3) := by decide +kernel
theorem dX12_rest_40 : decode cX12_rest 40 = .ok (.ifCond .le 7, 3) := by decide +kernel
theorem dX12_rest_43 : decode cX12_rest 43 = .ok (.iconst 1, 1) := by decide +kernel
theorem dX12_rest_44 : decode cX12_rest 44 = .ok (.goto 4, 3) := by decide +kernel
theorem dX12_rest_47 : decode cX12_rest 47 = .ok (.iconst 0, 1) := by decide +kernel
theorem dX12_rest_48 : decode cX12_rest 48 = .ok (.iadd, 1) := by decide +kernel
theorem dX12_rest_49 : decode cX12_rest 49 = .ok (.istore_n 1, 1) := by decide +kernel
theorem dX12_rest_50 : decode cX12_rest 50 = .ok (.aload_n 3, 1) := by decide +kernel
theorem dX12_rest_51 : decode cX12_rest 51 = .ok (.iconst 0, 1) := by decide +kernel
theorem dX12_rest_52 : decode cX12_rest 52 = .ok (.putfield 279, 3) := by decide +kernel
theorem dX12_rest_55 : decode cX12_rest 55 = .ok (.goto (-39), 3) := by decide +kernel
theorem dX12_rest_58 : decode cX12_rest 58 = .ok (.iload_n 1, 1) := by decide +kernel
theorem dX12_rest_59 : decode cX12_rest 59 = .ok (.ireturn, 1) := by decide +kernel
theorem dX12_ghosts_0 : decode cX12_ghosts 0 = .ok (.aload_n 0, 1) := by decide +kernel
theorem dX12_ghosts_1 : decode cX12_ghosts 1 = .ok (.invokevirtual 48, 3) := by decide +kernel
theorem dX12_ghosts_4 : decode cX12_ghosts 4 = .ok (.aload_n 0, 1) := by decide +kernel
theorem dX12_ghosts_5 : decode cX12_ghosts 5 = .ok (.iload_n 1, 1) := by decide +kernel
theorem dX12_ghosts_6 : decode cX12_ghosts 6 = .ok (.invokevirtual 171, 3) := by decide +kernel
theorem dX12_ghosts_9 : decode cX12_ghosts 9 = .ok (.ifCond .eq 7, 3) := by decide +kernel
theorem dX12_ghosts_12 : decode cX12_ghosts 12 = .ok (.iconst (-1), 1) := by decide +kernel
theorem dX12_ghosts_13 : decode cX12_ghosts 13 = .ok (.goto 19, 3) := by decide +kernel
theorem dX12_ghosts_16 : decode cX12_ghosts 16 = .ok (.aload_n 0, 1) := by decide +kernel
theorem dX12_ghosts_17 : decode cX12_ghosts 17 = .ok (.getfield 19, 3) := by decide +kernel
theorem dX12_ghosts_20 : decode cX12_ghosts 20 = .ok (.iload_n 1, 1) := by decide +kernel
theorem dX12_ghosts_21 : decode cX12_ghosts 21 = .ok (.invokeinterface 90 2, 5) := by decide +kernel
theorem dX12_ghosts_26 : decode cX12_ghosts 26 = .ok (.checkcast 129, 3) := by decide +kernel
theorem dX12_ghosts_29 : decode cX12_ghosts 29 = .ok (.getfield 285, 3) := by decide +kernel
theorem dX12_ghosts_32 : decode cX12_ghosts 32 = .ok (.ireturn, 1) := by decide +kernel
theorem dX12_beside_0 : decode cX12_beside 0 = .ok (.iload_n 0, 1) := by decide +kernel
theorem dX12_beside_1 : decode cX12_beside 1 = .ok (.bipush 8, 2) := by decide +kernel
theorem dX12_beside_3 : decode cX12_beside 3 = .ok (.idiv, 1) := by decide +kernel
theorem dX12_beside_4 : decode cX12_beside 4 = .ok (.iload_n 1, 1) := by decide +kernel
theorem dX12_beside_5 : decode cX12_beside 5 = .ok (.ifCond .ne 7, 3) := by decide +kernel
theorem dX12_beside_8 : decode cX12_beside 8 = .ok (.iconst (-1), 1) := by decide +kernel
theorem dX12_beside_9 : decode cX12_beside 9 = .ok (.goto 13, 3) := by decide +kernel
theorem dX12_beside_12 : decode cX12_beside 12 = .ok (.iload_n 1, 1) := by decide +kernel
theorem dX12_beside_13 : decode cX12_beside 13 = .ok (.iconst 1, 1) := by decide +kernel
theorem dX12_beside_14 : decode cX12_beside 14 = .ok (.if_icmp .ne 7, 3) := by decide +kernel
theorem dX12_beside_17 : decode cX12_beside 17 = .ok (.iconst 1, 1) := by decide +kernel
theorem dX12_beside_18 : decode cX12_beside 18 = .ok (.goto 4, 3) := by decide +kernel
theorem dX12_beside_21 : decode cX12_beside 21 = .ok (.iconst 0, 1) := by decide +kernel
theorem dX12_beside_22 : decode cX12_beside 22 = .ok (.iadd, 1) := by decide +kernel
theorem dX12_beside_23 : decode cX12_beside 23 = .ok (.istore_n 2, 1) := by decide +kernel
theorem dX12_beside_24 : decode cX12_beside 24 = .ok (.iload_n 0, 1) := by decide +kernel
theorem dX12_beside_25 : decode cX12_beside 25 = .ok (.bipush 8, 2) := by decide +kernel
theorem dX12_beside_27 : decode cX12_beside 27 = .ok (.irem, 1) := by decide +kernel
theorem dX12_beside_28 : decode cX12_beside 28 = .ok (.iload_n 1, 1) := by decide +kernel
theorem dX12_beside_29 : decode cX12_beside 29 = .ok (.iconst 2, 1) := by decide +kernel
theorem dX12_beside_30 : decode cX12_beside 30 = .ok (.if_icmp .ne 7, 3) := by decide +kernel
theorem dX12_beside_33 : decode cX12_beside 33 = .ok (.iconst (-1), 1) := by decide +kernel
theorem dX12_beside_34 : decode cX12_beside 34 = .ok (.goto 13, 3) := by decide +kernel
theorem dX12_beside_37 : decode cX12_beside 37 = .ok (.iload_n 1, 1) := by decide +kernel
theorem dX12_beside_38 : decode cX12_beside 38 = .ok (.iconst 3, 1) := by decide +kernel
theorem dX12_beside_39 : decode cX12_beside 39 = .ok (.if_icmp .ne 7, 3) := by decide +kernel
theorem dX12_beside_42 : decode cX12_beside 42 = .ok (.iconst 1, 1) := by decide +kernel
theorem dX12_beside_43 : decode cX12_beside 43 = .ok (.goto 4, 3) := by decide +kernel
theorem dX12_beside_46 : decode cX12_beside 46 = .ok (.iconst 0, 1) := by decide +kernel
theorem dX12_beside_47 : decode cX12_beside 47 = .ok (.iadd, 1) := by decide +kernel
theorem dX12_beside_48 : decode cX12_beside 48 = .ok (.istore_n 3, 1) := by decide +kernel
theorem dX12_beside_49 : decode cX12_beside 49 = .ok (.iload_n 2, 1) := by decide +kernel
theorem dX12_beside_50 : decode cX12_beside 50 = .ok (.i2l, 1) := by decide +kernel
theorem dX12_beside_51 : decode cX12_beside 51 = .ok (.lconst 0, 1) := by decide +kernel
theorem dX12_beside_52 : decode cX12_beside 52 = .ok (.ldc2_w 302, 3) := by decide +kernel
theorem dX12_beside_55 : decode cX12_beside 55 = .ok (.invokestatic 44, 3) := by decide +kernel
theorem dX12_beside_58 : decode cX12_beside 58 = .ok (.ifCond .eq 24, 3) := by decide +kernel
theorem dX12_beside_61 : decode cX12_beside 61 = .ok (.iload_n 3, 1) := by decide +kernel
theorem dX12_beside_62 : decode cX12_beside 62 = .ok (.i2l, 1) := by decide +kernel
theorem dX12_beside_63 : decode cX12_beside 63 = .ok (.lconst 0, 1) := by decide +kernel
theorem dX12_beside_64 : decode cX12_beside 64 = .ok (.ldc2_w 302, 3) := by decide +kernel
theorem dX12_beside_67 : decode cX12_beside 67 = .ok (.invokestatic 44, 3) := by decide +kernel
theorem dX12_beside_70 : decode cX12_beside 70 = .ok (.ifCond .eq 12, 3) := by decide +kernel
theorem dX12_beside_73 : decode cX12_beside 73 = .ok (.bipush 8, 2) := by decide +kernel
theorem dX12_beside_75 : decode cX12_beside 75 = .ok (.iload_n 2, 1) := by decide +kernel
theorem dX12_beside_76 : decode cX12_beside 76 = .ok (.imul, 1) := by decide +kernel
theorem dX12_beside_77 : decode cX12_beside 77 = .ok (.iload_n 3, 1) := by decide +kernel
theorem dX12_beside_78 : decode cX12_beside 78 = .ok (.iadd, 1) := by decide +kernel
theorem dX12_beside_79 : decode cX12_beside 79 = .ok (.goto 4, 3) := by decide +kernel
theorem dX12_beside_82 : decode cX12_beside 82 = .ok (.iconst (-1), 1) := by decide +kernel
theorem dX12_beside_83 : decode cX12_beside 83 = .ok (.ireturn, 1) := by decide +kernel
theorem dX12_most_0 : decode cX12_most 0 = .ok (.iconst 0, 1) := by decide +kernel
theorem dX12_most_1 : decode cX12_most 1 = .ok (.istore_n 1, 1) := by decide +kernel
theorem dX12_most_2 : decode cX12_most 2 = .ok (.aload_n 0, 1) := by decide +kernel
theorem dX12_most_3 : decode cX12_most 3 = .ok (.astore_n 2, 1) := by decide +kernel
theorem dX12_most_4 : decode cX12_most 4 = .ok (.aload_n 2, 1) := by decide +kernel
theorem dX12_most_5 : decode cX12_most 5 = .ok (.arraylength, 1) := by decide +kernel
theorem dX12_most_6 : decode cX12_most 6 = .ok (.istore_n 3, 1) := by decide +kernel
theorem dX12_most_7 : decode cX12_most 7 = .ok (.iconst 0, 1) := by decide +kernel
theorem dX12_most_8 : decode cX12_most 8 = .ok (.istore 4, 2) := by decide +kernel
theorem dX12_most_10 : decode cX12_most 10 = .ok (.iload 4, 2) := by decide +kernel
theorem dX12_most_12 : decode cX12_most 12 = .ok (.iload_n 3, 1) := by decide +kernel
theorem dX12_most_13 : decode cX12_most 13 = .ok (.if_icmp .ge 24, 3) := by decide +kernel
theorem dX12_most_16 : decode cX12_most 16 = .ok (.aload_n 2, 1) := by decide +kernel
theorem dX12_most_17 : decode cX12_most 17 = .ok (.iload 4, 2) := by decide +kernel
theorem dX12_most_19 : decode cX12_most 19 = .ok (.iaload, 1) := by decide +kernel
theorem dX12_most_20 : decode cX12_most 20 = .ok (.istore 5, 2) := by decide +kernel
theorem dX12_most_22 : decode cX12_most 22 = .ok (.iload_n 1, 1) := by decide +kernel
theorem dX12_most_23 : decode cX12_most 23 = .ok (.iload 5, 2) := by decide +kernel
theorem dX12_most_25 : decode cX12_most 25 = .ok (.iconst 1, 1) := by decide +kernel
theorem dX12_most_26 : decode cX12_most 26 = .ok (.iadd, 1) := by decide +kernel
theorem dX12_most_27 : decode cX12_most 27 = .ok (.invokestatic 268, 3) := by decide +kernel
theorem dX12_most_30 : decode cX12_most 30 = .ok (.istore_n 1, 1) := by decide +kernel
theorem dX12_most_31 : decode cX12_most 31 = .ok (.iinc 4 1, 3) := by decide +kernel
theorem dX12_most_34 : decode cX12_most 34 = .ok (.goto (-24), 3) := by decide +kernel
theorem dX12_most_37 : decode cX12_most 37 = .ok (.iload_n 1, 1) := by decide +kernel
theorem dX12_most_38 : decode cX12_most 38 = .ok (.ireturn, 1) := by decide +kernel
theorem dX12_picture_0 : decode cX12_picture 0 = .ok (.aload_n 0, 1) := by decide +kernel
theorem dX12_picture_1 : decode cX12_picture 1 = .ok (.invokevirtual 48, 3) := by decide +kernel
theorem dX12_picture_4 : decode cX12_picture 4 = .ok (.aload_n 0, 1) := by decide +kernel
theorem dX12_picture_5 : decode cX12_picture 5 = .ok (.aload_n 0, 1) := by decide +kernel
theorem dX12_picture_6 : decode cX12_picture 6 = .ok (.getfield 32, 3) := by decide +kernel
theorem dX12_picture_9 : decode cX12_picture 9 = .ok (.invokeinterface 38 1, 5) := by decide +kernel
theorem dX12_picture_14 : decode cX12_picture 14 = .ok (.iconst 4, 1) := by decide +kernel
theorem dX12_picture_15 : decode cX12_picture 15 = .ok (.if_icmp .ne 7, 3) := by decide +kernel
theorem dX12_picture_18 : decode cX12_picture 18 = .ok (.iconst 1, 1) := by decide +kernel
theorem dX12_picture_19 : decode cX12_picture 19 = .ok (.goto 4, 3) := by decide +kernel
theorem dX12_picture_22 : decode cX12_picture 22 = .ok (.iconst 0, 1) := by decide +kernel
theorem dX12_picture_23 : decode cX12_picture 23 = .ok (.iconst 1, 1) := by decide +kernel
theorem dX12_picture_24 : decode cX12_picture 24 = .ok (.invokevirtual 67, 3) := by decide +kernel
theorem dX12_picture_27 : decode cX12_picture 27 = .ok (.ifCond .eq 5, 3) := by decide +kernel
theorem dX12_picture_30 : decode cX12_picture 30 = .ok (.iconst (-1), 1) := by decide +kernel
theorem dX12_picture_31 : decode cX12_picture 31 = .ok (.ireturn, 1) := by decide +kernel
theorem dX12_picture_32 : decode cX12_picture 32 = .ok (.aload_n 0, 1) := by decide +kernel
theorem dX12_picture_33 : decode cX12_picture 33 = .ok (.getfield 32, 3) := by decide +kernel
theorem dX12_picture_36 : decode cX12_picture 36 = .ok (.new 304, 3) := by decide +kernel
theorem dX12_picture_39 : decode cX12_picture 39 = .ok (.dup, 1) := by decide +kernel
theorem dX12_picture_40 : decode cX12_picture 40 = .ok (.invokespecial 306, 3) := by decide +kernel
theorem dX12_picture_43 : decode cX12_picture 43 = .ok (.invokeinterface 76 2, 5) := by decide +kernel
theorem dX12_picture_48 : decode cX12_picture 48 = .ok (.pop, 1) := by decide +kernel
theorem dX12_picture_49 : decode cX12_picture 49 = .ok (.aload_n 0, 1) := by decide +kernel
theorem dX12_picture_50 : decode cX12_picture 50 = .ok (.getfield 32, 3) := by decide +kernel
theorem dX12_picture_53 : decode cX12_picture 53 = .ok (.invokeinterface 38 1, 5) := by decide +kernel
theorem dX12_picture_58 : decode cX12_picture 58 = .ok (.iconst 1, 1) := by decide +kernel
theorem dX12_picture_59 : decode cX12_picture 59 = .ok (.isub, 1) := by decide +kernel
theorem dX12_picture_60 : decode cX12_picture 60 = .ok (.ireturn, 1) := by decide +kernel
theorem dX12_noPicture_0 : decode cX12_noPicture 0 = .ok (.aload_n 0, 1) := by decide +kernel
theorem dX12_noPicture_1 : decode cX12_noPicture 1 = .ok (.aload_n 0, 1) := by decide +kernel
theorem dX12_noPicture_2 : decode cX12_noPicture 2 = .ok (.getfield 32, 3) := by decide +kernel
theorem dX12_noPicture_5 : decode cX12_noPicture 5 = .ok (.iload_n 1, 1) := by decide +kernel
theorem dX12_noPicture_6 : decode cX12_noPicture 6 = .ok (.invokestatic 80, 3) := by decide +kernel
theorem dX12_noPicture_9 : decode cX12_noPicture 9 = .ok (.ifCond .ne 7, 3) := by decide +kernel
theorem dX12_noPicture_12 : decode cX12_noPicture 12 = .ok (.iconst 1, 1) := by decide +kernel
theorem dX12_noPicture_13 : decode cX12_noPicture 13 = .ok (.goto 4, 3) := by decide +kernel
theorem dX12_noPicture_16 : decode cX12_noPicture 16 = .ok (.iconst 0, 1) := by decide +kernel
theorem dX12_noPicture_17 : decode cX12_noPicture 17 = .ok (.iconst 1, 1) := by decide +kernel
theorem dX12_noPicture_18 : decode cX12_noPicture 18 = .ok (.invokevirtual 67, 3) := by decide +kernel
theorem dX12_noPicture_21 : decode cX12_noPicture 21 = .ok (.ireturn, 1) := by decide +kernel
theorem dX12_draw_0 : decode cX12_draw 0 = .ok (.aload_n 0, 1) := by decide +kernel
theorem dX12_draw_1 : decode cX12_draw 1 = .ok (.invokevirtual 48, 3) := by decide +kernel
theorem dX12_draw_4 : decode cX12_draw 4 = .ok (.aload_n 0, 1) := by decide +kernel
theorem dX12_draw_5 : decode cX12_draw 5 = .ok (.iload_n 1, 1) := by decide +kernel
theorem dX12_draw_6 : decode cX12_draw 6 = .ok (.invokevirtual 307, 3) := by decide +kernel
theorem dX12_draw_9 : decode cX12_draw 9 = .ok (.ifCond .ne 102, 3) := by decide +kernel
theorem dX12_draw_12 : decode cX12_draw 12 = .ok (.aload_n 0, 1) := by decide +kernel
theorem dX12_draw_13 : decode cX12_draw 13 = .ok (.iload 5, 2) := by decide +kernel
theorem dX12_draw_15 : decode cX12_draw 15 = .ok (.i2l, 1) := by decide +kernel
theorem dX12_draw_16 : decode cX12_draw 16 = .ok (.ldc2_w 310, 3) := by decide +kernel
theorem dX12_draw_19 : decode cX12_draw 19 = .ok (.ldc2_w 312, 3) := by decide +kernel
theorem dX12_draw_22 : decode cX12_draw 22 = .ok (.invokestatic 44, 3) := by decide +kernel
theorem dX12_draw_25 : decode cX12_draw 25 = .ok (.ifCond .eq 42, 3) := by decide +kernel
theorem dX12_draw_28 : decode cX12_draw 28 = .ok (.iload_n 2, 1) := by decide +kernel
theorem dX12_draw_29 : decode cX12_draw 29 = .ok (.i2l, 1) := by decide +kernel
theorem dX12_draw_30 : decode cX12_draw 30 = .ok (.lconst 0, 1) := by decide +kernel
theorem dX12_draw_31 : decode cX12_draw 31 = .ok (.ldc2_w 302, 3) := by decide +kernel
theorem dX12_draw_34 : decode cX12_draw 34 = .ok (.invokestatic 44, 3) := by decide +kernel
theorem dX12_draw_37 : decode cX12_draw 37 = .ok (.ifCond .eq 30, 3) := by decide +kernel
theorem dX12_draw_40 : decode cX12_draw 40 = .ok (.iload_n 3, 1) := by decide +kernel
theorem dX12_draw_41 : decode cX12_draw 41 = .ok (.i2l, 1) := by decide +kernel
theorem dX12_draw_42 : decode cX12_draw 42 = .ok (.lconst 0, 1) := by decide +kernel
theorem dX12_draw_43 : decode cX12_draw 43 = .ok (.ldc2_w 302, 3) := by decide +kernel
theorem dX12_draw_46 : decode cX12_draw 46 = .ok (.invokestatic 44, 3) := by decide +kernel
theorem dX12_draw_49 : decode cX12_draw 49 = .ok (.ifCond .eq 18, 3) := by decide +kernel
theorem dX12_draw_52 : decode cX12_draw 52 = .ok (.iload 4, 2) := by decide +kernel
theorem dX12_draw_54 : decode cX12_draw 54 = .ok (.i2l, 1) := by decide +kernel
theorem dX12_draw_55 : decode cX12_draw 55 = .ok (.lconst 1, 1) := by decide +kernel
theorem dX12_draw_56 : decode cX12_draw 56 = .ok (.bipush 8, 2) := by decide +kernel
theorem dX12_draw_58 : decode cX12_draw 58 = .ok (.iload_n 3, 1) := by decide +kernel
theorem dX12_draw_59 : decode cX12_draw 59 = .ok (.isub, 1) := by decide +kernel
theorem dX12_draw_60 : decode cX12_draw 60 = .ok (.i2l, 1) := by decide +kernel
theorem dX12_draw_61 : decode cX12_draw 61 = .ok (.invokestatic 44, 3) := by decide +kernel
theorem dX12_draw_64 : decode cX12_draw 64 = .ok (.ifCond .ne 7, 3) := by decide +kernel
theorem dX12_draw_67 : decode cX12_draw 67 = .ok (.iconst 1, 1) := by decide +kernel
theorem dX12_draw_68 : decode cX12_draw 68 = .ok (.goto 4, 3) := by decide +kernel
theorem dX12_draw_71 : decode cX12_draw 71 = .ok (.iconst 0, 1) := by decide +kernel
theorem dX12_draw_72 : decode cX12_draw 72 = .ok (.iconst 2, 1) := by decide +kernel
theorem dX12_draw_73 : decode cX12_draw 73 = .ok (.invokevirtual 67, 3) := by decide +kernel
theorem dX12_draw_76 : decode cX12_draw 76 = .ok (.ifCond .ne 35, 3) := by decide +kernel
theorem dX12_draw_79 : decode cX12_draw 79 = .ok (.aload_n 0, 1) := by decide +kernel
theorem dX12_draw_80 : decode cX12_draw 80 = .ok (.aload_n 0, 1) := by decide +kernel
theorem dX12_draw_81 : decode cX12_draw 81 = .ok (.getfield 32, 3) := by decide +kernel
theorem dX12_draw_84 : decode cX12_draw 84 = .ok (.iload_n 1, 1) := by decide +kernel
theorem dX12_draw_85 : decode cX12_draw 85 = .ok (.invokeinterface 90 2, 5) := by decide +kernel
theorem dX12_draw_90 : decode cX12_draw 90 = .ok (.checkcast 304, 3) := by decide +kernel
theorem dX12_draw_93 : decode cX12_draw 93 = .ok (.getfield 314, 3) := by decide +kernel
theorem dX12_draw_96 : decode cX12_draw 96 = .ok (.ifnull 7, 3) := by decide +kernel
theorem dX12_draw_99 : decode cX12_draw 99 = .ok (.iconst 1, 1) := by decide +kernel
theorem dX12_draw_100 : decode cX12_draw 100 = .ok (.goto 4, 3) := by decide +kernel
theorem dX12_draw_103 : decode cX12_draw 103 = .ok (.iconst 0, 1) := by decide +kernel
theorem dX12_draw_104 : decode cX12_draw 104 = .ok (.iconst 3, 1) := by decide +kernel
theorem dX12_draw_105 : decode cX12_draw 105 = .ok (.invokevirtual 67, 3) := by decide +kernel
theorem dX12_draw_108 : decode cX12_draw 108 = .ok (.ifCond .eq 5, 3) := by decide +kernel
theorem dX12_draw_111 : decode cX12_draw 111 = .ok (.iconst (-1), 1) := by decide +kernel
theorem dX12_draw_112 : decode cX12_draw 112 = .ok (.ireturn, 1) := by decide +kernel
theorem dX12_draw_113 : decode cX12_draw 113 = .ok (.iload_n 3, 1) := by decide +kernel
theorem dX12_draw_114 : decode cX12_draw 114 = .ok (.istore 6, 2) := by decide +kernel
theorem dX12_draw_116 : decode cX12_draw 116 = .ok (.iload 6, 2) := by decide +kernel
theorem dX12_draw_118 : decode cX12_draw 118 = .ok (.iload_n 3, 1) := by decide +kernel
theorem dX12_draw_119 : decode cX12_draw 119 = .ok (.iload 4, 2) := by decide +kernel
theorem dX12_draw_121 : decode cX12_draw 121 = .ok (.iadd, 1) := by decide +kernel
theorem dX12_draw_122 : decode cX12_draw 122 = .ok (.if_icmp .ge 38, 3) := by decide +kernel
theorem dX12_draw_125 : decode cX12_draw 125 = .ok (.aload_n 0, 1) := by decide +kernel
theorem dX12_draw_126 : decode cX12_draw 126 = .ok (.getfield 32, 3) := by decide +kernel
theorem dX12_draw_129 : decode cX12_draw 129 = .ok (.iload_n 1, 1) := by decide +kernel
theorem dX12_draw_130 : decode cX12_draw 130 = .ok (.invokeinterface 90 2, 5) := by decide +kernel
theorem dX12_draw_135 : decode cX12_draw 135 = .ok (.checkcast 304, 3) := by decide +kernel
theorem dX12_draw_138 : decode cX12_draw 138 = .ok (.getfield 317, 3) := by decide +kernel
theorem dX12_draw_141 : decode cX12_draw 141 = .ok (.bipush 8, 2) := by decide +kernel
theorem dX12_draw_143 : decode cX12_draw 143 = .ok (.iload_n 2, 1) := by decide +kernel
theorem dX12_draw_144 : decode cX12_draw 144 = .ok (.imul, 1) := by decide +kernel
theorem dX12_draw_145 : decode cX12_draw 145 = .ok (.iload 6, 2) := by decide +kernel
theorem dX12_draw_147 : decode cX12_draw 147 = .ok (.iadd, 1) := by decide +kernel
theorem dX12_draw_148 : decode cX12_draw 148 = .ok (.iload 5, 2) := by decide +kernel
theorem dX12_draw_150 : decode cX12_draw 150 = .ok (.bipush 97, 2) := by decide +kernel
theorem dX12_draw_152 : decode cX12_draw 152 = .ok (.isub, 1) := by decide +kernel
theorem dX12_draw_153 : decode cX12_draw 153 = .ok (.iastore, 1) := by decide +kernel
theorem dX12_draw_154 : decode cX12_draw 154 = .ok (.iinc 6 1, 3) := by decide +kernel
theorem dX12_draw_157 : decode cX12_draw 157 = .ok (.goto (-41), 3) := by decide +kernel
theorem dX12_draw_160 : decode cX12_draw 160 = .ok (.aload_n 0, 1) := by decide +kernel
theorem dX12_draw_161 : decode cX12_draw 161 = .ok (.getfield 32, 3) := by decide +kernel
theorem dX12_draw_164 : decode cX12_draw 164 = .ok (.iload_n 1, 1) := by decide +kernel
theorem dX12_draw_165 : decode cX12_draw 165 = .ok (.invokeinterface 90 2, 5) := by decide +kernel
theorem dX12_draw_170 : decode cX12_draw 170 = .ok (.checkcast 304, 3) := by decide +kernel
theorem dX12_draw_173 : decode cX12_draw 173 = .ok (.invokevirtual 320, 3) := by decide +kernel
theorem dX12_draw_176 : decode cX12_draw 176 = .ok (.invokestatic 324, 3) := by decide +kernel
theorem dX12_draw_179 : decode cX12_draw 179 = .ok (.ireturn, 1) := by decide +kernel
theorem dX12_noPlace_0 : decode cX12_noPlace 0 = .ok (.aload_n 0, 1) := by decide +kernel
theorem dX12_noPlace_1 : decode cX12_noPlace 1 = .ok (.aload_n 0, 1) := by decide +kernel
theorem dX12_noPlace_2 : decode cX12_noPlace 2 = .ok (.getfield 32, 3) := by decide +kernel
theorem dX12_noPlace_5 : decode cX12_noPlace 5 = .ok (.iload_n 1, 1) := by decide +kernel
theorem dX12_noPlace_6 : decode cX12_noPlace 6 = .ok (.invokestatic 80, 3) := by decide +kernel
theorem dX12_noPlace_9 : decode cX12_noPlace 9 = .ok (.ifCond .eq 27, 3) := by decide +kernel
theorem dX12_noPlace_12 : decode cX12_noPlace 12 = .ok (.iload_n 2, 1) := by decide +kernel
theorem dX12_noPlace_13 : decode cX12_noPlace 13 = .ok (.i2l, 1) := by decide +kernel
theorem dX12_noPlace_14 : decode cX12_noPlace 14 = .ok (.lconst 0, 1) := by decide +kernel
theorem dX12_noPlace_15 : decode cX12_noPlace 15 = .ok (.ldc2_w 302, 3) := by decide +kernel
theorem dX12_noPlace_18 : decode cX12_noPlace 18 = .ok (.invokestatic 44, 3) := by decide +kernel
theorem dX12_noPlace_21 : decode cX12_noPlace 21 = .ok (.ifCond .eq 15, 3) := by decide +kernel
theorem dX12_noPlace_24 : decode cX12_noPlace 24 = .ok (.iload_n 3, 1) := by decide +kernel
theorem dX12_noPlace_25 : decode cX12_noPlace 25 = .ok (.i2l, 1) := by decide +kernel
theorem dX12_noPlace_26 : decode cX12_noPlace 26 = .ok (.lconst 0, 1) := by decide +kernel
theorem dX12_noPlace_27 : decode cX12_noPlace 27 = .ok (.ldc2_w 302, 3) := by decide +kernel
theorem dX12_noPlace_30 : decode cX12_noPlace 30 = .ok (.invokestatic 44, 3) := by decide +kernel
theorem dX12_noPlace_33 : decode cX12_noPlace 33 = .ok (.ifCond .ne 7, 3) := by decide +kernel
theorem dX12_noPlace_36 : decode cX12_noPlace 36 = .ok (.iconst 1, 1) := by decide +kernel
theorem dX12_noPlace_37 : decode cX12_noPlace 37 = .ok (.goto 4, 3) := by decide +kernel
theorem dX12_noPlace_40 : decode cX12_noPlace 40 = .ok (.iconst 0, 1) := by decide +kernel
theorem dX12_noPlace_41 : decode cX12_noPlace 41 = .ok (.iconst 1, 1) := by decide +kernel
theorem dX12_noPlace_42 : decode cX12_noPlace 42 = .ok (.invokevirtual 67, 3) := by decide +kernel
theorem dX12_noPlace_45 : decode cX12_noPlace 45 = .ok (.ireturn, 1) := by decide +kernel
theorem dX12_fieldAt_0 : decode cX12_fieldAt 0 = .ok (.aload_n 0, 1) := by decide +kernel
theorem dX12_fieldAt_1 : decode cX12_fieldAt 1 = .ok (.invokevirtual 48, 3) := by decide +kernel
theorem dX12_fieldAt_4 : decode cX12_fieldAt 4 = .ok (.aload_n 0, 1) := by decide +kernel
theorem dX12_fieldAt_5 : decode cX12_fieldAt 5 = .ok (.iload_n 1, 1) := by decide +kernel
theorem dX12_fieldAt_6 : decode cX12_fieldAt 6 = .ok (.iload_n 2, 1) := by decide +kernel
theorem dX12_fieldAt_7 : decode cX12_fieldAt 7 = .ok (.iload_n 3, 1) := by decide +kernel
theorem dX12_fieldAt_8 : decode cX12_fieldAt 8 = .ok (.invokevirtual 328, 3) := by decide +kernel
theorem dX12_fieldAt_11 : decode cX12_fieldAt 11 = .ok (.ifCond .eq 8, 3) := by decide +kernel
theorem dX12_fieldAt_14 : decode cX12_fieldAt 14 = .ok (.bipush 32, 2) := by decide +kernel
theorem dX12_fieldAt_16 : decode cX12_fieldAt 16 = .ok (.goto 30, 3) := by decide +kernel
theorem dX12_fieldAt_19 : decode cX12_fieldAt 19 = .ok (.bipush 97, 2) := by decide +kernel
theorem dX12_fieldAt_21 : decode cX12_fieldAt 21 = .ok (.aload_n 0, 1) := by decide +kernel
theorem dX12_fieldAt_22 : decode cX12_fieldAt 22 = .ok (.getfield 32, 3) := by decide +kernel
theorem dX12_fieldAt_25 : decode cX12_fieldAt 25 = .ok (.iload_n 1, 1) := by decide +kernel
theorem dX12_fieldAt_26 : decode cX12_fieldAt 26 = .ok (.invokeinterface 90 2, 5) := by decide +kernel
theorem dX12_fieldAt_31 : decode cX12_fieldAt 31 = .ok (.checkcast 304, 3) := by decide +kernel
theorem dX12_fieldAt_34 : decode cX12_fieldAt 34 = .ok (.getfield 317, 3) := by decide +kernel
theorem dX12_fieldAt_37 : decode cX12_fieldAt 37 = .ok (.bipush 8, 2) := by decide +kernel
theorem dX12_fieldAt_39 : decode cX12_fieldAt 39 = .ok (.iload_n 2, 1) := by decide +kernel
theorem dX12_fieldAt_40 : decode cX12_fieldAt 40 = .ok (.imul, 1) := by decide +kernel
theorem dX12_fieldAt_41 : decode cX12_fieldAt 41 = .ok (.iload_n 3, 1) := by decide +kernel
theorem dX12_fieldAt_42 : decode cX12_fieldAt 42 = .ok (.iadd, 1) := by decide +kernel
theorem dX12_fieldAt_43 : decode cX12_fieldAt 43 = .ok (.iaload, 1) := by decide +kernel
theorem dX12_fieldAt_44 : decode cX12_fieldAt 44 = .ok (.iadd, 1) := by decide +kernel
theorem dX12_fieldAt_45 : decode cX12_fieldAt 45 = .ok (.i2c, 1) := by decide +kernel
theorem dX12_fieldAt_46 : decode cX12_fieldAt 46 = .ok (.ireturn, 1) := by decide +kernel
theorem dX12_pieces_0 : decode cX12_pieces 0 = .ok (.aload_n 0, 1) := by decide +kernel
theorem dX12_pieces_1 : decode cX12_pieces 1 = .ok (.invokevirtual 48, 3) := by decide +kernel
theorem dX12_pieces_4 : decode cX12_pieces 4 = .ok (.aload_n 0, 1) := by decide +kernel
theorem dX12_pieces_5 : decode cX12_pieces 5 = .ok (.iload_n 1, 1) := by decide +kernel
theorem dX12_pieces_6 : decode cX12_pieces 6 = .ok (.invokevirtual 307, 3) := by decide +kernel
theorem dX12_pieces_9 : decode cX12_pieces 9 = .ok (.ifCond .eq 7, 3) := by decide +kernel
theorem dX12_pieces_12 : decode cX12_pieces 12 = .ok (.iconst (-1), 1) := by decide +kernel
theorem dX12_pieces_13 : decode cX12_pieces 13 = .ok (.goto 22, 3) := by decide +kernel
theorem dX12_pieces_16 : decode cX12_pieces 16 = .ok (.aload_n 0, 1) := by decide +kernel
theorem dX12_pieces_17 : decode cX12_pieces 17 = .ok (.getfield 32, 3) := by decide +kernel
theorem dX12_pieces_20 : decode cX12_pieces 20 = .ok (.iload_n 1, 1) := by decide +kernel
theorem dX12_pieces_21 : decode cX12_pieces 21 = .ok (.invokeinterface 90 2, 5) := by decide +kernel
theorem dX12_pieces_26 : decode cX12_pieces 26 = .ok (.checkcast 304, 3) := by decide +kernel
theorem dX12_pieces_29 : decode cX12_pieces 29 = .ok (.invokevirtual 320, 3) := by decide +kernel
theorem dX12_pieces_32 : decode cX12_pieces 32 = .ok (.invokestatic 324, 3) := by decide +kernel
theorem dX12_pieces_35 : decode cX12_pieces 35 = .ok (.ireturn, 1) := by decide +kernel
theorem dX12_islands_0 : decode cX12_islands 0 = .ok (.aload_n 0, 1) := by decide +kernel
theorem dX12_islands_1 : decode cX12_islands 1 = .ok (.invokevirtual 48, 3) := by decide +kernel
theorem dX12_islands_4 : decode cX12_islands 4 = .ok (.aload_n 0, 1) := by decide +kernel
theorem dX12_islands_5 : decode cX12_islands 5 = .ok (.iload_n 1, 1) := by decide +kernel
theorem dX12_islands_6 : decode cX12_islands 6 = .ok (.invokevirtual 307, 3) := by decide +kernel
theorem dX12_islands_9 : decode cX12_islands 9 = .ok (.ifCond .eq 5, 3) := by decide +kernel
theorem dX12_islands_12 : decode cX12_islands 12 = .ok (.iconst (-1), 1) := by decide +kernel
theorem dX12_islands_13 : decode cX12_islands 13 = .ok (.ireturn, 1) := by decide +kernel
theorem dX12_islands_14 : decode cX12_islands 14 = .ok (.aload_n 0, 1) := by decide +kernel
theorem dX12_islands_15 : decode cX12_islands 15 = .ok (.getfield 32, 3) := by decide +kernel
theorem dX12_islands_18 : decode cX12_islands 18 = .ok (.iload_n 1, 1) := by decide +kernel
theorem dX12_islands_19 : decode cX12_islands 19 = .ok (.invokeinterface 90 2, 5) := by decide +kernel
theorem dX12_islands_24 : decode cX12_islands 24 = .ok (.checkcast 304, 3) := by decide +kernel
theorem dX12_islands_27 : decode cX12_islands 27 = .ok (.astore_n 2, 1) := by decide +kernel
theorem dX12_islands_28 : decode cX12_islands 28 = .ok (.aload_n 2, 1) := by decide +kernel
theorem dX12_islands_29 : decode cX12_islands 29 = .ok (.invokevirtual 320, 3) := by decide +kernel
theorem dX12_islands_32 : decode cX12_islands 32 = .ok (.astore_n 3, 1) := by decide +kernel
theorem dX12_islands_33 : decode cX12_islands 33 = .ok (.iconst 0, 1) := by decide +kernel
theorem dX12_islands_34 : decode cX12_islands 34 = .ok (.istore 4, 2) := by decide +kernel
theorem dX12_islands_36 : decode cX12_islands 36 = .ok (.iconst 0, 1) := by decide +kernel
theorem dX12_islands_37 : decode cX12_islands 37 = .ok (.istore 5, 2) := by decide +kernel
theorem dX12_islands_39 : decode cX12_islands 39 = .ok (.iload 5, 2) := by decide +kernel
theorem dX12_islands_41 : decode cX12_islands 41 = .ok (.aload_n 3, 1) := by decide +kernel
theorem dX12_islands_42 : decode cX12_islands 42 = .ok (.invokestatic 324, 3) := by decide +kernel
theorem dX12_islands_45 : decode cX12_islands 45 = .ok (.if_icmp .ge 151, 3) := by decide +kernel
theorem dX12_islands_48 : decode cX12_islands 48 = .ok (.iconst 1, 1) := by decide +kernel
theorem dX12_islands_49 : decode cX12_islands 49 = .ok (.istore 6, 2) := by decide +kernel
theorem dX12_islands_51 : decode cX12_islands 51 = .ok (.iconst (-1), 1) := by decide +kernel
theorem dX12_islands_52 : decode cX12_islands 52 = .ok (.istore 7, 2) := by decide +kernel
theorem dX12_islands_54 : decode cX12_islands 54 = .ok (.iconst 0, 1) := by decide +kernel
theorem dX12_islands_55 : decode cX12_islands 55 = .ok (.istore 8, 2) := by decide +kernel
theorem dX12_islands_57 : decode cX12_islands 57 = .ok (.iload 8, 2) := by decide +kernel
theorem dX12_islands_59 : decode cX12_islands 59 = .ok (.bipush 64, 2) := by decide +kernel
theorem dX12_islands_61 : decode cX12_islands 61 = .ok (.if_icmp .ge 114, 3) := by decide +kernel
theorem dX12_islands_64 : decode cX12_islands 64 = .ok (.iconst 0, 1) := by decide +kernel
theorem dX12_islands_65 : decode cX12_islands 65 = .ok (.istore 9, 2) := by decide +kernel
theorem dX12_islands_67 : decode cX12_islands 67 = .ok (.iload 9, 2) := by decide +kernel
theorem dX12_islands_69 : decode cX12_islands 69 = .ok (.iconst 4, 1) := by decide +kernel
theorem dX12_islands_70 : decode cX12_islands 70 = .ok (.if_icmp .ge 99, 3) := by decide +kernel
theorem dX12_islands_73 : decode cX12_islands 73 = .ok (.aload_n 3, 1) := by decide +kernel
theorem dX12_islands_74 : decode cX12_islands 74 = .ok (.iload 8, 2) := by decide +kernel
theorem dX12_islands_76 : decode cX12_islands 76 = .ok (.iaload, 1) := by decide +kernel
theorem dX12_islands_77 : decode cX12_islands 77 = .ok (.iload 5, 2) := by decide +kernel
theorem dX12_islands_79 : decode cX12_islands 79 = .ok (.if_icmp .ne 90, 3) := by decide +kernel
theorem dX12_islands_82 : decode cX12_islands 82 = .ok (.iload 8, 2) := by decide +kernel
theorem dX12_islands_84 : decode cX12_islands 84 = .ok (.iload 9, 2) := by decide +kernel
theorem dX12_islands_86 : decode cX12_islands 86 = .ok (.invokestatic 331, 3) := by decide +kernel
theorem dX12_islands_89 : decode cX12_islands 89 = .ok (.istore 10, 2) := by decide +kernel
theorem dX12_islands_91 : decode cX12_islands 91 = .ok (.iload 6, 2) := by decide +kernel
theorem dX12_islands_93 : decode cX12_islands 93 = .ok (.ifCond .eq 13, 3) := by decide +kernel
theorem dX12_islands_96 : decode cX12_islands 96 = .ok (.iload 10, 2) := by decide +kernel
theorem dX12_islands_98 : decode cX12_islands 98 = .ok (.iconst (-1), 1) := by decide +kernel
theorem dX12_islands_99 : decode cX12_islands 99 = .ok (.if_icmp .eq 7, 3) := by decide +kernel
theorem dX12_islands_102 : decode cX12_islands 102 = .ok (.iconst 1, 1) := by decide +kernel
theorem dX12_islands_103 : decode cX12_islands 103 = .ok (.goto 4, 3) := by decide +kernel
theorem dX12_islands_106 : decode cX12_islands 106 = .ok (.iconst 0, 1) := by decide +kernel
theorem dX12_islands_107 : decode cX12_islands 107 = .ok (.istore 6, 2) := by decide +kernel
theorem dX12_islands_109 : decode cX12_islands 109 = .ok (.iload 10, 2) := by decide +kernel
theorem dX12_islands_111 : decode cX12_islands 111 = .ok (.iconst (-1), 1) := by decide +kernel
theorem dX12_islands_112 : decode cX12_islands 112 = .ok (.if_icmp .eq 51, 3) := by decide +kernel
theorem dX12_islands_115 : decode cX12_islands 115 = .ok (.aload_n 3, 1) := by decide +kernel
theorem dX12_islands_116 : decode cX12_islands 116 = .ok (.iload 10, 2) := by decide +kernel
theorem dX12_islands_118 : decode cX12_islands 118 = .ok (.iaload, 1) := by decide +kernel
theorem dX12_islands_119 : decode cX12_islands 119 = .ok (.iload 5, 2) := by decide +kernel
theorem dX12_islands_121 : decode cX12_islands 121 = .ok (.if_icmp .eq 42, 3) := by decide +kernel
theorem dX12_islands_124 : decode cX12_islands 124 = .ok (.iload 6, 2) := by decide +kernel
theorem dX12_islands_126 : decode cX12_islands 126 = .ok (.ifCond .eq 25, 3) := by decide +kernel
theorem dX12_islands_129 : decode cX12_islands 129 = .ok (.iload 7, 2) := by decide +kernel
theorem dX12_islands_131 : decode cX12_islands 131 = .ok (.iconst (-1), 1) := by decide +kernel
theorem dX12_islands_132 : decode cX12_islands 132 = .ok (.if_icmp .eq 15, 3) := by decide +kernel
theorem dX12_islands_135 : decode cX12_islands 135 = .ok (.iload 7, 2) := by decide +kernel
theorem dX12_islands_137 : decode cX12_islands 137 = .ok (.aload_n 2, 1) := by decide +kernel
theorem dX12_islands_138 : decode cX12_islands 138 = .ok (.getfield 317, 3) := by decide +kernel
theorem dX12_islands_141 : decode cX12_islands 141 = .ok (.iload 10, 2) := by decide +kernel
theorem dX12_islands_143 : decode cX12_islands 143 = .ok (.iaload, 1) := by decide +kernel
theorem dX12_islands_144 : decode cX12_islands 144 = .ok (.if_icmp .ne 7, 3) := by decide +kernel
theorem dX12_islands_147 : decode cX12_islands 147 = .ok (.iconst 1, 1) := by decide +kernel
theorem dX12_islands_148 : decode cX12_islands 148 = .ok (.goto 4, 3) := by decide +kernel
theorem dX12_islands_151 : decode cX12_islands 151 = .ok (.iconst 0, 1) := by decide +kernel
theorem dX12_islands_152 : decode cX12_islands 152 = .ok (.istore 6, 2) := by decide +kernel
theorem dX12_islands_154 : decode cX12_islands 154 = .ok (.aload_n 2, 1) := by decide +kernel
theorem dX12_islands_155 : decode cX12_islands 155 = .ok (.getfield 317, 3) := by decide +kernel
theorem dX12_islands_158 : decode cX12_islands 158 = .ok (.iload 10, 2) := by decide +kernel
theorem dX12_islands_160 : decode cX12_islands 160 = .ok (.iaload, 1) := by decide +kernel
theorem dX12_islands_161 : decode cX12_islands 161 = .ok (.istore 7, 2) := by decide +kernel
theorem dX12_islands_163 : decode cX12_islands 163 = .ok (.iinc 9 1, 3) := by decide +kernel
theorem dX12_islands_166 : decode cX12_islands 166 = .ok (.goto (-99), 3) := by decide +kernel
theorem dX12_islands_169 : decode cX12_islands 169 = .ok (.iinc 8 1, 3) := by decide +kernel
theorem dX12_islands_172 : decode cX12_islands 172 = .ok (.goto (-115), 3) := by decide +kernel
theorem dX12_islands_175 : decode cX12_islands 175 = .ok (.iload 4, 2) := by decide +kernel
theorem dX12_islands_177 : decode cX12_islands 177 = .ok (.iload 6, 2) := by decide +kernel
theorem dX12_islands_179 : decode cX12_islands 179 = .ok (.ifCond .eq 7, 3) := by decide +kernel
theorem dX12_islands_182 : decode cX12_islands 182 = .ok (.iconst 1, 1) := by decide +kernel
theorem dX12_islands_183 : decode cX12_islands 183 = .ok (.goto 4, 3) := by decide +kernel
theorem dX12_islands_186 : decode cX12_islands 186 = .ok (.iconst 0, 1) := by decide +kernel
theorem dX12_islands_187 : decode cX12_islands 187 = .ok (.iadd, 1) := by decide +kernel
theorem dX12_islands_188 : decode cX12_islands 188 = .ok (.istore 4, 2) := by decide +kernel
theorem dX12_islands_190 : decode cX12_islands 190 = .ok (.iinc 5 1, 3) := by decide +kernel
theorem dX12_islands_193 : decode cX12_islands 193 = .ok (.goto (-154), 3) := by decide +kernel
theorem dX12_islands_196 : decode cX12_islands 196 = .ok (.iload 4, 2) := by decide +kernel
theorem dX12_islands_198 : decode cX12_islands 198 = .ok (.ireturn, 1) := by decide +kernel
theorem dX12_saw_0 : decode cX12_saw 0 = .ok (.aload_n 0, 1) := by decide +kernel
theorem dX12_saw_1 : decode cX12_saw 1 = .ok (.invokevirtual 48, 3) := by decide +kernel
theorem dX12_saw_4 : decode cX12_saw 4 = .ok (.aload_n 0, 1) := by decide +kernel
theorem dX12_saw_5 : decode cX12_saw 5 = .ok (.iload_n 1, 1) := by decide +kernel
theorem dX12_saw_6 : decode cX12_saw 6 = .ok (.invokevirtual 307, 3) := by decide +kernel
theorem dX12_saw_9 : decode cX12_saw 9 = .ok (.ifCond .ne 42, 3) := by decide +kernel
theorem dX12_saw_12 : decode cX12_saw 12 = .ok (.aload_n 0, 1) := by decide +kernel
theorem dX12_saw_13 : decode cX12_saw 13 = .ok (.iload_n 2, 1) := by decide +kernel
theorem dX12_saw_14 : decode cX12_saw 14 = .ok (.iload_n 3, 1) := by decide +kernel
theorem dX12_saw_15 : decode cX12_saw 15 = .ok (.iload 4, 2) := by decide +kernel
theorem dX12_saw_17 : decode cX12_saw 17 = .ok (.invokevirtual 175, 3) := by decide +kernel
theorem dX12_saw_20 : decode cX12_saw 20 = .ok (.ifCond .ne 31, 3) := by decide +kernel
theorem dX12_saw_23 : decode cX12_saw 23 = .ok (.aload_n 0, 1) := by decide +kernel
theorem dX12_saw_24 : decode cX12_saw 24 = .ok (.iload 4, 2) := by decide +kernel
theorem dX12_saw_26 : decode cX12_saw 26 = .ok (.i2l, 1) := by decide +kernel
theorem dX12_saw_27 : decode cX12_saw 27 = .ok (.ldc2_w 334, 3) := by decide +kernel
theorem dX12_saw_30 : decode cX12_saw 30 = .ok (.ldc2_w 181, 3) := by decide +kernel
theorem dX12_saw_33 : decode cX12_saw 33 = .ok (.invokestatic 44, 3) := by decide +kernel
theorem dX12_saw_36 : decode cX12_saw 36 = .ok (.ifCond .ne 7, 3) := by decide +kernel
theorem dX12_saw_39 : decode cX12_saw 39 = .ok (.iconst 1, 1) := by decide +kernel
theorem dX12_saw_40 : decode cX12_saw 40 = .ok (.goto 4, 3) := by decide +kernel
theorem dX12_saw_43 : decode cX12_saw 43 = .ok (.iconst 0, 1) := by decide +kernel
theorem dX12_saw_44 : decode cX12_saw 44 = .ok (.iconst 2, 1) := by decide +kernel
theorem dX12_saw_45 : decode cX12_saw 45 = .ok (.invokevirtual 67, 3) := by decide +kernel
theorem dX12_saw_48 : decode cX12_saw 48 = .ok (.ifCond .eq 5, 3) := by decide +kernel
theorem dX12_saw_51 : decode cX12_saw 51 = .ok (.iconst (-1), 1) := by decide +kernel
theorem dX12_saw_52 : decode cX12_saw 52 = .ok (.ireturn, 1) := by decide +kernel
theorem dX12_saw_53 : decode cX12_saw 53 = .ok (.aload_n 0, 1) := by decide +kernel
theorem dX12_saw_54 : decode cX12_saw 54 = .ok (.getfield 16, 3) := by decide +kernel
theorem dX12_saw_57 : decode cX12_saw 57 = .ok (.iload_n 2, 1) := by decide +kernel
theorem dX12_saw_58 : decode cX12_saw 58 = .ok (.invokeinterface 90 2, 5) := by decide +kernel
theorem dX12_saw_63 : decode cX12_saw 63 = .ok (.checkcast 98, 3) := by decide +kernel
theorem dX12_saw_66 : decode cX12_saw 66 = .ok (.astore 5, 2) := by decide +kernel
theorem dX12_saw_68 : decode cX12_saw 68 = .ok (.aload_n 0, 1) := by decide +kernel
theorem dX12_saw_69 : decode cX12_saw 69 = .ok (.getfield 32, 3) := by decide +kernel
theorem dX12_saw_72 : decode cX12_saw 72 = .ok (.iload_n 1, 1) := by decide +kernel
theorem dX12_saw_73 : decode cX12_saw 73 = .ok (.invokeinterface 90 2, 5) := by decide +kernel
theorem dX12_saw_78 : decode cX12_saw 78 = .ok (.checkcast 304, 3) := by decide +kernel
theorem dX12_saw_81 : decode cX12_saw 81 = .ok (.getfield 314, 3) := by decide +kernel
theorem dX12_saw_84 : decode cX12_saw 84 = .ok (.ifnonnull 7, 3) := by decide +kernel
theorem dX12_saw_87 : decode cX12_saw 87 = .ok (.iconst 1, 1) := by decide +kernel
theorem dX12_saw_88 : decode cX12_saw 88 = .ok (.goto 4, 3) := by decide +kernel
theorem dX12_saw_91 : decode cX12_saw 91 = .ok (.iconst 0, 1) := by decide +kernel
theorem dX12_saw_92 : decode cX12_saw 92 = .ok (.istore 6, 2) := by decide +kernel
theorem dX12_saw_94 : decode cX12_saw 94 = .ok (.bipush (-64), 2) := by decide +kernel
theorem dX12_saw_96 : decode cX12_saw 96 = .ok (.iload 4, 2) := by decide +kernel
theorem dX12_saw_98 : decode cX12_saw 98 = .ok (.imul, 1) := by decide +kernel
theorem dX12_saw_99 : decode cX12_saw 99 = .ok (.istore 7, 2) := by decide +kernel
theorem dX12_saw_101 : decode cX12_saw 101 = .ok (.iload_n 3, 1) := by decide +kernel
theorem dX12_saw_102 : decode cX12_saw 102 = .ok (.istore 8, 2) := by decide +kernel
theorem dX12_saw_104 : decode cX12_saw 104 = .ok (.iload 8, 2) := by decide +kernel
theorem dX12_saw_106 : decode cX12_saw 106 = .ok (.iload_n 3, 1) := by decide +kernel
theorem dX12_saw_107 : decode cX12_saw 107 = .ok (.iload 4, 2) := by decide +kernel
theorem dX12_saw_109 : decode cX12_saw 109 = .ok (.iadd, 1) := by decide +kernel
theorem dX12_saw_110 : decode cX12_saw 110 = .ok (.if_icmp .ge 56, 3) := by decide +kernel
theorem dX12_saw_113 : decode cX12_saw 113 = .ok (.iload 6, 2) := by decide +kernel
theorem dX12_saw_115 : decode cX12_saw 115 = .ok (.ifCond .eq 30, 3) := by decide +kernel
theorem dX12_saw_118 : decode cX12_saw 118 = .ok (.aload 5, 2) := by decide +kernel
theorem dX12_saw_120 : decode cX12_saw 120 = .ok (.getfield 103, 3) := by decide +kernel
theorem dX12_saw_123 : decode cX12_saw 123 = .ok (.iload 8, 2) := by decide +kernel
theorem dX12_saw_125 : decode cX12_saw 125 = .ok (.baload, 1) := by decide +kernel
theorem dX12_saw_126 : decode cX12_saw 126 = .ok (.ifCond .ne 19, 3) := by decide +kernel
theorem dX12_saw_129 : decode cX12_saw 129 = .ok (.aload 5, 2) := by decide +kernel
theorem dX12_saw_131 : decode cX12_saw 131 = .ok (.iload 8, 2) := by decide +kernel
theorem dX12_saw_133 : decode cX12_saw 133 = .ok (.invokevirtual 114, 3) := by decide +kernel
theorem dX12_saw_136 : decode cX12_saw 136 = .ok (.bipush 80, 2) := by decide +kernel
theorem dX12_saw_138 : decode cX12_saw 138 = .ok (.if_icmp .lt 7, 3) := by decide +kernel
theorem dX12_saw_141 : decode cX12_saw 141 = .ok (.iconst 1, 1) := by decide +kernel
theorem dX12_saw_142 : decode cX12_saw 142 = .ok (.goto 4, 3) := by decide +kernel
theorem dX12_saw_145 : decode cX12_saw 145 = .ok (.iconst 0, 1) := by decide +kernel
theorem dX12_saw_146 : decode cX12_saw 146 = .ok (.istore 6, 2) := by decide +kernel
theorem dX12_saw_148 : decode cX12_saw 148 = .ok (.iload 7, 2) := by decide +kernel
theorem dX12_saw_150 : decode cX12_saw 150 = .ok (.aload 5, 2) := by decide +kernel
theorem dX12_saw_152 : decode cX12_saw 152 = .ok (.iload 8, 2) := by decide +kernel
theorem dX12_saw_154 : decode cX12_saw 154 = .ok (.invokevirtual 117, 3) := by decide +kernel
theorem dX12_saw_157 : decode cX12_saw 157 = .ok (.iadd, 1) := by decide +kernel
theorem dX12_saw_158 : decode cX12_saw 158 = .ok (.istore 7, 2) := by decide +kernel
theorem dX12_saw_160 : decode cX12_saw 160 = .ok (.iinc 8 1, 3) := by decide +kernel
theorem dX12_saw_163 : decode cX12_saw 163 = .ok (.goto (-59), 3) := by decide +kernel
theorem dX12_saw_166 : decode cX12_saw 166 = .ok (.aload_n 0, 1) := by decide +kernel
theorem dX12_saw_167 : decode cX12_saw 167 = .ok (.iload 6, 2) := by decide +kernel
theorem dX12_saw_169 : decode cX12_saw 169 = .ok (.ifCond .ne 7, 3) := by decide +kernel
theorem dX12_saw_172 : decode cX12_saw 172 = .ok (.iconst 1, 1) := by decide +kernel
theorem dX12_saw_173 : decode cX12_saw 173 = .ok (.goto 4, 3) := by decide +kernel
theorem dX12_saw_176 : decode cX12_saw 176 = .ok (.iconst 0, 1) := by decide +kernel
theorem dX12_saw_177 : decode cX12_saw 177 = .ok (.iconst 3, 1) := by decide +kernel
theorem dX12_saw_178 : decode cX12_saw 178 = .ok (.invokevirtual 67, 3) := by decide +kernel
theorem dX12_saw_181 : decode cX12_saw 181 = .ok (.ifCond .eq 5, 3) := by decide +kernel
theorem dX12_saw_184 : decode cX12_saw 184 = .ok (.iconst (-1), 1) := by decide +kernel
theorem dX12_saw_185 : decode cX12_saw 185 = .ok (.ireturn, 1) := by decide +kernel
theorem dX12_saw_186 : decode cX12_saw 186 = .ok (.iload_n 3, 1) := by decide +kernel
theorem dX12_saw_187 : decode cX12_saw 187 = .ok (.istore 8, 2) := by decide +kernel
theorem dX12_saw_189 : decode cX12_saw 189 = .ok (.iload 8, 2) := by decide +kernel
theorem dX12_saw_191 : decode cX12_saw 191 = .ok (.iload_n 3, 1) := by decide +kernel
theorem dX12_saw_192 : decode cX12_saw 192 = .ok (.iload 4, 2) := by decide +kernel
theorem dX12_saw_194 : decode cX12_saw 194 = .ok (.iadd, 1) := by decide +kernel
theorem dX12_saw_195 : decode cX12_saw 195 = .ok (.if_icmp .ge 18, 3) := by decide +kernel
theorem dX12_saw_198 : decode cX12_saw 198 = .ok (.aload 5, 2) := by decide +kernel
theorem dX12_saw_200 : decode cX12_saw 200 = .ok (.getfield 103, 3) := by decide +kernel
theorem dX12_saw_203 : decode cX12_saw 203 = .ok (.iload 8, 2) := by decide +kernel
theorem dX12_saw_205 : decode cX12_saw 205 = .ok (.iconst 1, 1) := by decide +kernel
theorem dX12_saw_206 : decode cX12_saw 206 = .ok (.bastore, 1) := by decide +kernel
theorem dX12_saw_207 : decode cX12_saw 207 = .ok (.iinc 8 1, 3) := by decide +kernel
theorem dX12_saw_210 : decode cX12_saw 210 = .ok (.goto (-21), 3) := by decide +kernel
theorem dX12_saw_213 : decode cX12_saw 213 = .ok (.aload_n 0, 1) := by decide +kernel
theorem dX12_saw_214 : decode cX12_saw 214 = .ok (.getfield 32, 3) := by decide +kernel
theorem dX12_saw_217 : decode cX12_saw 217 = .ok (.iload_n 1, 1) := by decide +kernel
theorem dX12_saw_218 : decode cX12_saw 218 = .ok (.invokeinterface 90 2, 5) := by decide +kernel
theorem dX12_saw_223 : decode cX12_saw 223 = .ok (.checkcast 304, 3) := by decide +kernel
theorem dX12_saw_226 : decode cX12_saw 226 = .ok (.new 157, 3) := by decide +kernel
theorem dX12_saw_229 : decode cX12_saw 229 = .ok (.dup, 1) := by decide +kernel
theorem dX12_saw_230 : decode cX12_saw 230 = .ok (.aload 5, 2) := by decide +kernel
theorem dX12_saw_232 : decode cX12_saw 232 = .ok (.iload_n 3, 1) := by decide +kernel
theorem dX12_saw_233 : decode cX12_saw 233 = .ok (.iload 4, 2) := by decide +kernel
theorem dX12_saw_235 : decode cX12_saw 235 = .ok (.invokespecial 183, 3) := by decide +kernel
theorem dX12_saw_238 : decode cX12_saw 238 = .ok (.putfield 314, 3) := by decide +kernel
theorem dX12_saw_241 : decode cX12_saw 241 = .ok (.aload_n 0, 1) := by decide +kernel
theorem dX12_saw_242 : decode cX12_saw 242 = .ok (.dup, 1) := by decide +kernel
theorem dX12_saw_243 : decode cX12_saw 243 = .ok (.getfield 336, 3) := by decide +kernel
theorem dX12_saw_246 : decode cX12_saw 246 = .ok (.bipush 64, 2) := by decide +kernel
theorem dX12_saw_248 : decode cX12_saw 248 = .ok (.iload 4, 2) := by decide +kernel
theorem dX12_saw_250 : decode cX12_saw 250 = .ok (.imul, 1) := by decide +kernel
theorem dX12_saw_251 : decode cX12_saw 251 = .ok (.iadd, 1) := by decide +kernel
theorem dX12_saw_252 : decode cX12_saw 252 = .ok (.putfield 336, 3) := by decide +kernel
theorem dX12_saw_255 : decode cX12_saw 255 = .ok (.aload_n 0, 1) := by decide +kernel
theorem dX12_saw_256 : decode cX12_saw 256 = .ok (.dup, 1) := by decide +kernel
theorem dX12_saw_257 : decode cX12_saw 257 = .ok (.getfield 168, 3) := by decide +kernel
theorem dX12_saw_260 : decode cX12_saw 260 = .ok (.iload 7, 2) := by decide +kernel
theorem dX12_saw_262 : decode cX12_saw 262 = .ok (.iadd, 1) := by decide +kernel
theorem dX12_saw_263 : decode cX12_saw 263 = .ok (.putfield 168, 3) := by decide +kernel
theorem dX12_saw_266 : decode cX12_saw 266 = .ok (.iload 7, 2) := by decide +kernel
theorem dX12_saw_268 : decode cX12_saw 268 = .ok (.ireturn, 1) := by decide +kernel
theorem dX12_leafOf_0 : decode cX12_leafOf 0 = .ok (.aload_n 0, 1) := by decide +kernel
theorem dX12_leafOf_1 : decode cX12_leafOf 1 = .ok (.getfield 314, 3) := by decide +kernel
theorem dX12_leafOf_4 : decode cX12_leafOf 4 = .ok (.getfield 156, 3) := by decide +kernel
theorem dX12_leafOf_7 : decode cX12_leafOf 7 = .ok (.aload_n 0, 1) := by decide +kernel
theorem dX12_leafOf_8 : decode cX12_leafOf 8 = .ok (.getfield 317, 3) := by decide +kernel
theorem dX12_leafOf_11 : decode cX12_leafOf 11 = .ok (.iload_n 2, 1) := by decide +kernel
theorem dX12_leafOf_12 : decode cX12_leafOf 12 = .ok (.iaload, 1) := by decide +kernel
theorem dX12_leafOf_13 : decode cX12_leafOf 13 = .ok (.iload_n 1, 1) := by decide +kernel
theorem dX12_leafOf_14 : decode cX12_leafOf 14 = .ok (.iadd, 1) := by decide +kernel
theorem dX12_leafOf_15 : decode cX12_leafOf 15 = .ok (.aload_n 0, 1) := by decide +kernel
theorem dX12_leafOf_16 : decode cX12_leafOf 16 = .ok (.getfield 314, 3) := by decide +kernel
theorem dX12_leafOf_19 : decode cX12_leafOf 19 = .ok (.getfield 161, 3) := by decide +kernel
theorem dX12_leafOf_22 : decode cX12_leafOf 22 = .ok (.irem, 1) := by decide +kernel
theorem dX12_leafOf_23 : decode cX12_leafOf 23 = .ok (.iadd, 1) := by decide +kernel
theorem dX12_leafOf_24 : decode cX12_leafOf 24 = .ok (.ireturn, 1) := by decide +kernel
theorem dX12_noCopy_0 : decode cX12_noCopy 0 = .ok (.aload_n 0, 1) := by decide +kernel
theorem dX12_noCopy_1 : decode cX12_noCopy 1 = .ok (.getfield 32, 3) := by decide +kernel
theorem dX12_noCopy_4 : decode cX12_noCopy 4 = .ok (.iload_n 1, 1) := by decide +kernel
theorem dX12_noCopy_5 : decode cX12_noCopy 5 = .ok (.invokeinterface 90 2, 5) := by decide +kernel
theorem dX12_noCopy_10 : decode cX12_noCopy 10 = .ok (.checkcast 304, 3) := by decide +kernel
theorem dX12_noCopy_13 : decode cX12_noCopy 13 = .ok (.getfield 314, 3) := by decide +kernel
theorem dX12_noCopy_16 : decode cX12_noCopy 16 = .ok (.astore_n 3, 1) := by decide +kernel
theorem dX12_noCopy_17 : decode cX12_noCopy 17 = .ok (.aload_n 0, 1) := by decide +kernel
theorem dX12_noCopy_18 : decode cX12_noCopy 18 = .ok (.aload_n 3, 1) := by decide +kernel
theorem dX12_noCopy_19 : decode cX12_noCopy 19 = .ok (.ifnull 19, 3) := by decide +kernel
theorem dX12_noCopy_22 : decode cX12_noCopy 22 = .ok (.iload_n 2, 1) := by decide +kernel
theorem dX12_noCopy_23 : decode cX12_noCopy 23 = .ok (.i2l, 1) := by decide +kernel
theorem dX12_noCopy_24 : decode cX12_noCopy 24 = .ok (.lconst 0, 1) := by decide +kernel
theorem dX12_noCopy_25 : decode cX12_noCopy 25 = .ok (.aload_n 3, 1) := by decide +kernel
theorem dX12_noCopy_26 : decode cX12_noCopy 26 = .ok (.getfield 161, 3) := by decide +kernel
theorem dX12_noCopy_29 : decode cX12_noCopy 29 = .ok (.iconst 1, 1) := by decide +kernel
theorem dX12_noCopy_30 : decode cX12_noCopy 30 = .ok (.isub, 1) := by decide +kernel
theorem dX12_noCopy_31 : decode cX12_noCopy 31 = .ok (.i2l, 1) := by decide +kernel
theorem dX12_noCopy_32 : decode cX12_noCopy 32 = .ok (.invokestatic 44, 3) := by decide +kernel
theorem dX12_noCopy_35 : decode cX12_noCopy 35 = .ok (.ifCond .ne 7, 3) := by decide +kernel
theorem dX12_noCopy_38 : decode cX12_noCopy 38 = .ok (.iconst 1, 1) := by decide +kernel
theorem dX12_noCopy_39 : decode cX12_noCopy 39 = .ok (.goto 4, 3) := by decide +kernel
theorem dX12_noCopy_42 : decode cX12_noCopy 42 = .ok (.iconst 0, 1) := by decide +kernel
theorem dX12_noCopy_43 : decode cX12_noCopy 43 = .ok (.iconst 2, 1) := by decide +kernel
theorem dX12_noCopy_44 : decode cX12_noCopy 44 = .ok (.invokevirtual 67, 3) := by decide +kernel
theorem dX12_noCopy_47 : decode cX12_noCopy 47 = .ok (.ireturn, 1) := by decide +kernel
theorem dX12_leafAt_0 : decode cX12_leafAt 0 = .ok (.aload_n 0, 1) := by decide +kernel
theorem dX12_leafAt_1 : decode cX12_leafAt 1 = .ok (.invokevirtual 48, 3) := by decide +kernel
theorem dX12_leafAt_4 : decode cX12_leafAt 4 = .ok (.aload_n 0, 1) := by decide +kernel
theorem dX12_leafAt_5 : decode cX12_leafAt 5 = .ok (.iload_n 1, 1) := by decide +kernel
theorem dX12_leafAt_6 : decode cX12_leafAt 6 = .ok (.iload_n 3, 1) := by decide +kernel
theorem dX12_leafAt_7 : decode cX12_leafAt 7 = .ok (.iload 4, 2) := by decide +kernel
theorem dX12_leafAt_9 : decode cX12_leafAt 9 = .ok (.invokevirtual 328, 3) := by decide +kernel
theorem dX12_leafAt_12 : decode cX12_leafAt 12 = .ok (.ifCond .ne 12, 3) := by decide +kernel
theorem dX12_leafAt_15 : decode cX12_leafAt 15 = .ok (.aload_n 0, 1) := by decide +kernel
theorem dX12_leafAt_16 : decode cX12_leafAt 16 = .ok (.iload_n 1, 1) := by decide +kernel
theorem dX12_leafAt_17 : decode cX12_leafAt 17 = .ok (.iload_n 2, 1) := by decide +kernel
theorem dX12_leafAt_18 : decode cX12_leafAt 18 = .ok (.invokevirtual 339, 3) := by decide +kernel
theorem dX12_leafAt_21 : decode cX12_leafAt 21 = .ok (.ifCond .eq 7, 3) := by decide +kernel
theorem dX12_leafAt_24 : decode cX12_leafAt 24 = .ok (.iconst (-1), 1) := by decide +kernel
theorem dX12_leafAt_25 : decode cX12_leafAt 25 = .ok (.goto 27, 3) := by decide +kernel
theorem dX12_leafAt_28 : decode cX12_leafAt 28 = .ok (.aload_n 0, 1) := by decide +kernel
theorem dX12_leafAt_29 : decode cX12_leafAt 29 = .ok (.getfield 32, 3) := by decide +kernel
theorem dX12_leafAt_32 : decode cX12_leafAt 32 = .ok (.iload_n 1, 1) := by decide +kernel
theorem dX12_leafAt_33 : decode cX12_leafAt 33 = .ok (.invokeinterface 90 2, 5) := by decide +kernel
theorem dX12_leafAt_38 : decode cX12_leafAt 38 = .ok (.checkcast 304, 3) := by decide +kernel
theorem dX12_leafAt_41 : decode cX12_leafAt 41 = .ok (.iload_n 2, 1) := by decide +kernel
theorem dX12_leafAt_42 : decode cX12_leafAt 42 = .ok (.bipush 8, 2) := by decide +kernel
theorem dX12_leafAt_44 : decode cX12_leafAt 44 = .ok (.iload_n 3, 1) := by decide +kernel
theorem dX12_leafAt_45 : decode cX12_leafAt 45 = .ok (.imul, 1) := by decide +kernel
theorem dX12_leafAt_46 : decode cX12_leafAt 46 = .ok (.iload 4, 2) := by decide +kernel
theorem dX12_leafAt_48 : decode cX12_leafAt 48 = .ok (.iadd, 1) := by decide +kernel
theorem dX12_leafAt_49 : decode cX12_leafAt 49 = .ok (.invokestatic 342, 3) := by decide +kernel
theorem dX12_leafAt_52 : decode cX12_leafAt 52 = .ok (.ireturn, 1) := by decide +kernel
theorem dX12_contrast_0 : decode cX12_contrast 0 = .ok (.aload_n 0, 1) := by decide +kernel
theorem dX12_contrast_1 : decode cX12_contrast 1 = .ok (.invokevirtual 48, 3) := by decide +kernel
theorem dX12_contrast_4 : decode cX12_contrast 4 = .ok (.aload_n 0, 1) := by decide +kernel
theorem dX12_contrast_5 : decode cX12_contrast 5 = .ok (.iload_n 1, 1) := by decide +kernel
theorem dX12_contrast_6 : decode cX12_contrast 6 = .ok (.invokevirtual 307, 3) := by decide +kernel
theorem dX12_contrast_9 : decode cX12_contrast 9 = .ok (.ifCond .ne 12, 3) := by decide +kernel
theorem dX12_contrast_12 : decode cX12_contrast 12 = .ok (.aload_n 0, 1) := by decide +kernel
theorem dX12_contrast_13 : decode cX12_contrast 13 = .ok (.iload_n 1, 1) := by decide +kernel
theorem dX12_contrast_14 : decode cX12_contrast 14 = .ok (.iload_n 2, 1) := by decide +kernel
theorem dX12_contrast_15 : decode cX12_contrast 15 = .ok (.invokevirtual 339, 3) := by decide +kernel
theorem dX12_contrast_18 : decode cX12_contrast 18 = .ok (.ifCond .eq 5, 3) := by decide +kernel
theorem dX12_contrast_21 : decode cX12_contrast 21 = .ok (.iconst (-1), 1) := by decide +kernel
theorem dX12_contrast_22 : decode cX12_contrast 22 = .ok (.ireturn, 1) := by decide +kernel
theorem dX12_contrast_23 : decode cX12_contrast 23 = .ok (.aload_n 0, 1) := by decide +kernel
theorem dX12_contrast_24 : decode cX12_contrast 24 = .ok (.getfield 32, 3) := by decide +kernel
theorem dX12_contrast_27 : decode cX12_contrast 27 = .ok (.iload_n 1, 1) := by decide +kernel
theorem dX12_contrast_28 : decode cX12_contrast 28 = .ok (.invokeinterface 90 2, 5) := by decide +kernel
theorem dX12_contrast_33 : decode cX12_contrast 33 = .ok (.checkcast 304, 3) := by decide +kernel
theorem dX12_contrast_36 : decode cX12_contrast 36 = .ok (.astore_n 3, 1) := by decide +kernel
theorem dX12_contrast_37 : decode cX12_contrast 37 = .ok (.iconst 0, 1) := by decide +kernel
theorem dX12_contrast_38 : decode cX12_contrast 38 = .ok (.istore 4, 2) := by decide +kernel
theorem dX12_contrast_40 : decode cX12_contrast 40 = .ok (.iconst 0, 1) := by decide +kernel
theorem dX12_contrast_41 : decode cX12_contrast 41 = .ok (.istore 5, 2) := by decide +kernel
theorem dX12_contrast_43 : decode cX12_contrast 43 = .ok (.iload 5, 2) := by decide +kernel
theorem dX12_contrast_45 : decode cX12_contrast 45 = .ok (.bipush 64, 2) := by decide +kernel
theorem dX12_contrast_47 : decode cX12_contrast 47 = .ok (.if_icmp .ge 99, 3) := by decide +kernel
theorem dX12_contrast_50 : decode cX12_contrast 50 = .ok (.iconst 1, 1) := by decide +kernel
theorem dX12_contrast_51 : decode cX12_contrast 51 = .ok (.istore 6, 2) := by decide +kernel
theorem dX12_contrast_53 : decode cX12_contrast 53 = .ok (.iload 6, 2) := by decide +kernel
theorem dX12_contrast_55 : decode cX12_contrast 55 = .ok (.iconst 4, 1) := by decide +kernel
theorem dX12_contrast_56 : decode cX12_contrast 56 = .ok (.if_icmp .ge 84, 3) := by decide +kernel
theorem dX12_contrast_59 : decode cX12_contrast 59 = .ok (.iload 5, 2) := by decide +kernel
theorem dX12_contrast_61 : decode cX12_contrast 61 = .ok (.iload 6, 2) := by decide +kernel
theorem dX12_contrast_63 : decode cX12_contrast 63 = .ok (.invokestatic 331, 3) := by decide +kernel
theorem dX12_contrast_66 : decode cX12_contrast 66 = .ok (.istore 7, 2) := by decide +kernel
theorem dX12_contrast_68 : decode cX12_contrast 68 = .ok (.iload 7, 2) := by decide +kernel
theorem dX12_contrast_70 : decode cX12_contrast 70 = .ok (.iconst (-1), 1) := by decide +kernel
theorem dX12_contrast_71 : decode cX12_contrast 71 = .ok (.if_icmp .eq 63, 3) := by decide +kernel
theorem dX12_contrast_74 : decode cX12_contrast 74 = .ok (.aload_n 3, 1) := by decide +kernel
theorem dX12_contrast_75 : decode cX12_contrast 75 = .ok (.getfield 317, 3) := by decide +kernel
theorem dX12_contrast_78 : decode cX12_contrast 78 = .ok (.iload 7, 2) := by decide +kernel
theorem dX12_contrast_80 : decode cX12_contrast 80 = .ok (.iaload, 1) := by decide +kernel
theorem dX12_contrast_81 : decode cX12_contrast 81 = .ok (.aload_n 3, 1) := by decide +kernel
theorem dX12_contrast_82 : decode cX12_contrast 82 = .ok (.getfield 317, 3) := by decide +kernel
theorem dX12_contrast_85 : decode cX12_contrast 85 = .ok (.iload 5, 2) := by decide +kernel
theorem dX12_contrast_87 : decode cX12_contrast 87 = .ok (.iaload, 1) := by decide +kernel
theorem dX12_contrast_88 : decode cX12_contrast 88 = .ok (.if_icmp .eq 46, 3) := by decide +kernel
theorem dX12_contrast_91 : decode cX12_contrast 91 = .ok (.iload 4, 2) := by decide +kernel
theorem dX12_contrast_93 : decode cX12_contrast 93 = .ok (.aload_n 3, 1) := by decide +kernel
theorem dX12_contrast_94 : decode cX12_contrast 94 = .ok (.getfield 314, 3) := by decide +kernel
theorem dX12_contrast_97 : decode cX12_contrast 97 = .ok (.getfield 164, 3) := by decide +kernel
theorem dX12_contrast_100 : decode cX12_contrast 100 = .ok (.aload_n 3, 1) := by decide +kernel
theorem dX12_contrast_101 : decode cX12_contrast 101 = .ok (.iload_n 2, 1) := by decide +kernel
theorem dX12_contrast_102 : decode cX12_contrast 102 = .ok (.iload 5, 2) := by decide +kernel
theorem dX12_contrast_104 : decode cX12_contrast 104 = .ok (.invokestatic 342, 3) := by decide +kernel
theorem dX12_contrast_107 : decode cX12_contrast 107 = .ok (.invokevirtual 120, 3) := by decide +kernel
theorem dX12_contrast_110 : decode cX12_contrast 110 = .ok (.aload_n 3, 1) := by decide +kernel
theorem dX12_contrast_111 : decode cX12_contrast 111 = .ok (.getfield 314, 3) := by decide +kernel
theorem dX12_contrast_114 : decode cX12_contrast 114 = .ok (.getfield 164, 3) := by decide +kernel
theorem dX12_contrast_117 : decode cX12_contrast 117 = .ok (.aload_n 3, 1) := by decide +kernel
theorem dX12_contrast_118 : decode cX12_contrast 118 = .ok (.iload_n 2, 1) := by decide +kernel
theorem dX12_contrast_119 : decode cX12_contrast 119 = .ok (.iload 7, 2) := by decide +kernel
theorem dX12_contrast_121 : decode cX12_contrast 121 = .ok (.invokestatic 342, 3) := by decide +kernel
theorem dX12_contrast_124 : decode cX12_contrast 124 = .ok (.invokevirtual 120, 3) := by decide +kernel
theorem dX12_contrast_127 : decode cX12_contrast 127 = .ok (.isub, 1) := by decide +kernel
theorem dX12_contrast_128 : decode cX12_contrast 128 = .ok (.invokestatic 346, 3) := by decide +kernel
theorem dX12_contrast_131 : decode cX12_contrast 131 = .ok (.iadd, 1) := by decide +kernel
theorem dX12_contrast_132 : decode cX12_contrast 132 = .ok (.istore 4, 2) := by decide +kernel
theorem dX12_contrast_134 : decode cX12_contrast 134 = .ok (.iinc 6 2, 3) := by decide +kernel
theorem dX12_contrast_137 : decode cX12_contrast 137 = .ok (.goto (-84), 3) := by decide +kernel
theorem dX12_contrast_140 : decode cX12_contrast 140 = .ok (.iinc 5 1, 3) := by decide +kernel
theorem dX12_contrast_143 : decode cX12_contrast 143 = .ok (.goto (-100), 3) := by decide +kernel
theorem dX12_contrast_146 : decode cX12_contrast 146 = .ok (.iload 4, 2) := by decide +kernel
theorem dX12_contrast_148 : decode cX12_contrast 148 = .ok (.ireturn, 1) := by decide +kernel
theorem dX12_sand_0 : decode cX12_sand 0 = .ok (.aload_n 0, 1) := by decide +kernel
theorem dX12_sand_1 : decode cX12_sand 1 = .ok (.invokevirtual 48, 3) := by decide +kernel
theorem dX12_sand_4 : decode cX12_sand 4 = .ok (.aload_n 0, 1) := by decide +kernel
theorem dX12_sand_5 : decode cX12_sand 5 = .ok (.iload_n 1, 1) := by decide +kernel
theorem dX12_sand_6 : decode cX12_sand 6 = .ok (.invokevirtual 307, 3) := by decide +kernel
theorem dX12_sand_9 : decode cX12_sand 9 = .ok (.ifCond .ne 89, 3) := by decide +kernel
theorem dX12_sand_12 : decode cX12_sand 12 = .ok (.aload_n 0, 1) := by decide +kernel
theorem dX12_sand_13 : decode cX12_sand 13 = .ok (.iload_n 2, 1) := by decide +kernel
theorem dX12_sand_14 : decode cX12_sand 14 = .ok (.i2l, 1) := by decide +kernel
theorem dX12_sand_15 : decode cX12_sand 15 = .ok (.ldc2_w 310, 3) := by decide +kernel
theorem dX12_sand_18 : decode cX12_sand 18 = .ok (.ldc2_w 312, 3) := by decide +kernel
theorem dX12_sand_21 : decode cX12_sand 21 = .ok (.invokestatic 44, 3) := by decide +kernel
theorem dX12_sand_24 : decode cX12_sand 24 = .ok (.ifCond .eq 30, 3) := by decide +kernel
theorem dX12_sand_27 : decode cX12_sand 27 = .ok (.iload_n 3, 1) := by decide +kernel
theorem dX12_sand_28 : decode cX12_sand 28 = .ok (.i2l, 1) := by decide +kernel
theorem dX12_sand_29 : decode cX12_sand 29 = .ok (.ldc2_w 59, 3) := by decide +kernel
theorem dX12_sand_32 : decode cX12_sand 32 = .ok (.ldc2_w 349, 3) := by decide +kernel
theorem dX12_sand_35 : decode cX12_sand 35 = .ok (.invokestatic 44, 3) := by decide +kernel
theorem dX12_sand_38 : decode cX12_sand 38 = .ok (.ifCond .eq 16, 3) := by decide +kernel
theorem dX12_sand_41 : decode cX12_sand 41 = .ok (.iload 4, 2) := by decide +kernel
theorem dX12_sand_43 : decode cX12_sand 43 = .ok (.i2l, 1) := by decide +kernel
theorem dX12_sand_44 : decode cX12_sand 44 = .ok (.lconst 1, 1) := by decide +kernel
theorem dX12_sand_45 : decode cX12_sand 45 = .ok (.ldc2_w 216, 3) := by decide +kernel
theorem dX12_sand_48 : decode cX12_sand 48 = .ok (.invokestatic 44, 3) := by decide +kernel
theorem dX12_sand_51 : decode cX12_sand 51 = .ok (.ifCond .ne 7, 3) := by decide +kernel
theorem dX12_sand_54 : decode cX12_sand 54 = .ok (.iconst 1, 1) := by decide +kernel
theorem dX12_sand_55 : decode cX12_sand 55 = .ok (.goto 4, 3) := by decide +kernel
theorem dX12_sand_58 : decode cX12_sand 58 = .ok (.iconst 0, 1) := by decide +kernel
theorem dX12_sand_59 : decode cX12_sand 59 = .ok (.iconst 2, 1) := by decide +kernel
theorem dX12_sand_60 : decode cX12_sand 60 = .ok (.invokevirtual 67, 3) := by decide +kernel
theorem dX12_sand_63 : decode cX12_sand 63 = .ok (.ifCond .ne 35, 3) := by decide +kernel
theorem dX12_sand_66 : decode cX12_sand 66 = .ok (.aload_n 0, 1) := by decide +kernel
theorem dX12_sand_67 : decode cX12_sand 67 = .ok (.aload_n 0, 1) := by decide +kernel
theorem dX12_sand_68 : decode cX12_sand 68 = .ok (.getfield 32, 3) := by decide +kernel
theorem dX12_sand_71 : decode cX12_sand 71 = .ok (.iload_n 1, 1) := by decide +kernel
theorem dX12_sand_72 : decode cX12_sand 72 = .ok (.invokeinterface 90 2, 5) := by decide +kernel
theorem dX12_sand_77 : decode cX12_sand 77 = .ok (.checkcast 304, 3) := by decide +kernel
theorem dX12_sand_80 : decode cX12_sand 80 = .ok (.getfield 314, 3) := by decide +kernel
theorem dX12_sand_83 : decode cX12_sand 83 = .ok (.ifnonnull 7, 3) := by decide +kernel
theorem dX12_sand_86 : decode cX12_sand 86 = .ok (.iconst 1, 1) := by decide +kernel
theorem dX12_sand_87 : decode cX12_sand 87 = .ok (.goto 4, 3) := by decide +kernel
theorem dX12_sand_90 : decode cX12_sand 90 = .ok (.iconst 0, 1) := by decide +kernel
theorem dX12_sand_91 : decode cX12_sand 91 = .ok (.iconst 3, 1) := by decide +kernel
theorem dX12_sand_92 : decode cX12_sand 92 = .ok (.invokevirtual 67, 3) := by decide +kernel
theorem dX12_sand_95 : decode cX12_sand 95 = .ok (.ifCond .eq 5, 3) := by decide +kernel
theorem dX12_sand_98 : decode cX12_sand 98 = .ok (.iconst (-1), 1) := by decide +kernel
theorem dX12_sand_99 : decode cX12_sand 99 = .ok (.ireturn, 1) := by decide +kernel
theorem dX12_sand_100 : decode cX12_sand 100 = .ok (.aload_n 0, 1) := by decide +kernel
theorem dX12_sand_101 : decode cX12_sand 101 = .ok (.getfield 32, 3) := by decide +kernel
theorem dX12_sand_104 : decode cX12_sand 104 = .ok (.iload_n 1, 1) := by decide +kernel
theorem dX12_sand_105 : decode cX12_sand 105 = .ok (.invokeinterface 90 2, 5) := by decide +kernel
theorem dX12_sand_110 : decode cX12_sand 110 = .ok (.checkcast 304, 3) := by decide +kernel
theorem dX12_sand_113 : decode cX12_sand 113 = .ok (.getfield 351, 3) := by decide +kernel
theorem dX12_sand_116 : decode cX12_sand 116 = .ok (.astore 5, 2) := by decide +kernel
theorem dX12_sand_118 : decode cX12_sand 118 = .ok (.aload 5, 2) := by decide +kernel
theorem dX12_sand_120 : decode cX12_sand 120 = .ok (.iload_n 2, 1) := by decide +kernel
theorem dX12_sand_121 : decode cX12_sand 121 = .ok (.bipush 97, 2) := by decide +kernel
theorem dX12_sand_123 : decode cX12_sand 123 = .ok (.isub, 1) := by decide +kernel
theorem dX12_sand_124 : decode cX12_sand 124 = .ok (.bipush 99, 2) := by decide +kernel
theorem dX12_sand_126 : decode cX12_sand 126 = .ok (.aload 5, 2) := by decide +kernel
theorem dX12_sand_128 : decode cX12_sand 128 = .ok (.iload_n 2, 1) := by decide +kernel
theorem dX12_sand_129 : decode cX12_sand 129 = .ok (.bipush 97, 2) := by decide +kernel
theorem dX12_sand_131 : decode cX12_sand 131 = .ok (.isub, 1) := by decide +kernel
theorem dX12_sand_132 : decode cX12_sand 132 = .ok (.iaload, 1) := by decide +kernel
theorem dX12_sand_133 : decode cX12_sand 133 = .ok (.iload_n 3, 1) := by decide +kernel
theorem dX12_sand_134 : decode cX12_sand 134 = .ok (.bipush 100, 2) := by decide +kernel
theorem dX12_sand_136 : decode cX12_sand 136 = .ok (.isub, 1) := by decide +kernel
theorem dX12_sand_137 : decode cX12_sand 137 = .ok (.iload 4, 2) := by decide +kernel
theorem dX12_sand_139 : decode cX12_sand 139 = .ok (.imul, 1) := by decide +kernel
theorem dX12_sand_140 : decode cX12_sand 140 = .ok (.bipush 50, 2) := by decide +kernel
theorem dX12_sand_142 : decode cX12_sand 142 = .ok (.idiv, 1) := by decide +kernel
theorem dX12_sand_143 : decode cX12_sand 143 = .ok (.iadd, 1) := by decide +kernel
theorem dX12_sand_144 : decode cX12_sand 144 = .ok (.invokestatic 262, 3) := by decide +kernel
theorem dX12_sand_147 : decode cX12_sand 147 = .ok (.iastore, 1) := by decide +kernel
theorem dX12_sand_148 : decode cX12_sand 148 = .ok (.aload 5, 2) := by decide +kernel
theorem dX12_sand_150 : decode cX12_sand 150 = .ok (.iload_n 2, 1) := by decide +kernel
theorem dX12_sand_151 : decode cX12_sand 151 = .ok (.bipush 97, 2) := by decide +kernel
theorem dX12_sand_153 : decode cX12_sand 153 = .ok (.isub, 1) := by decide +kernel
theorem dX12_sand_154 : decode cX12_sand 154 = .ok (.iaload, 1) := by decide +kernel
theorem dX12_sand_155 : decode cX12_sand 155 = .ok (.ireturn, 1) := by decide +kernel
theorem dX12_burnt_0 : decode cX12_burnt 0 = .ok (.aload_n 0, 1) := by decide +kernel
theorem dX12_burnt_1 : decode cX12_burnt 1 = .ok (.invokevirtual 48, 3) := by decide +kernel
theorem dX12_burnt_4 : decode cX12_burnt 4 = .ok (.aload_n 0, 1) := by decide +kernel
theorem dX12_burnt_5 : decode cX12_burnt 5 = .ok (.iload_n 1, 1) := by decide +kernel
theorem dX12_burnt_6 : decode cX12_burnt 6 = .ok (.invokevirtual 307, 3) := by decide +kernel
theorem dX12_burnt_9 : decode cX12_burnt 9 = .ok (.ifCond .eq 5, 3) := by decide +kernel
theorem dX12_burnt_12 : decode cX12_burnt 12 = .ok (.iconst (-1), 1) := by decide +kernel
theorem dX12_burnt_13 : decode cX12_burnt 13 = .ok (.ireturn, 1) := by decide +kernel
theorem dX12_burnt_14 : decode cX12_burnt 14 = .ok (.iconst 0, 1) := by decide +kernel
theorem dX12_burnt_15 : decode cX12_burnt 15 = .ok (.istore_n 2, 1) := by decide +kernel
theorem dX12_burnt_16 : decode cX12_burnt 16 = .ok (.aload_n 0, 1) := by decide +kernel
theorem dX12_burnt_17 : decode cX12_burnt 17 = .ok (.getfield 32, 3) := by decide +kernel
theorem dX12_burnt_20 : decode cX12_burnt 20 = .ok (.iload_n 1, 1) := by decide +kernel
theorem dX12_burnt_21 : decode cX12_burnt 21 = .ok (.invokeinterface 90 2, 5) := by decide +kernel
theorem dX12_burnt_26 : decode cX12_burnt 26 = .ok (.checkcast 304, 3) := by decide +kernel
theorem dX12_burnt_29 : decode cX12_burnt 29 = .ok (.getfield 351, 3) := by decide +kernel
theorem dX12_burnt_32 : decode cX12_burnt 32 = .ok (.astore_n 3, 1) := by decide +kernel
theorem dX12_burnt_33 : decode cX12_burnt 33 = .ok (.aload_n 3, 1) := by decide +kernel
theorem dX12_burnt_34 : decode cX12_burnt 34 = .ok (.arraylength, 1) := by decide +kernel
theorem dX12_burnt_35 : decode cX12_burnt 35 = .ok (.istore 4, 2) := by decide +kernel
theorem dX12_burnt_37 : decode cX12_burnt 37 = .ok (.iconst 0, 1) := by decide +kernel
theorem dX12_burnt_38 : decode cX12_burnt 38 = .ok (.istore 5, 2) := by decide +kernel
theorem dX12_burnt_40 : decode cX12_burnt 40 = .ok (.iload 5, 2) := by decide +kernel
theorem dX12_burnt_42 : decode cX12_burnt 42 = .ok (.iload 4, 2) := by decide +kernel
theorem dX12_burnt_44 : decode cX12_burnt 44 = .ok (.if_icmp .ge 30, 3) := by decide +kernel
theorem dX12_burnt_47 : decode cX12_burnt 47 = .ok (.aload_n 3, 1) := by decide +kernel
theorem dX12_burnt_48 : decode cX12_burnt 48 = .ok (.iload 5, 2) := by decide +kernel
theorem dX12_burnt_50 : decode cX12_burnt 50 = .ok (.iaload, 1) := by decide +kernel
theorem dX12_burnt_51 : decode cX12_burnt 51 = .ok (.istore 6, 2) := by decide +kernel
theorem dX12_burnt_53 : decode cX12_burnt 53 = .ok (.iload_n 2, 1) := by decide +kernel
theorem dX12_burnt_54 : decode cX12_burnt 54 = .ok (.iload 6, 2) := by decide +kernel
theorem dX12_burnt_56 : decode cX12_burnt 56 = .ok (.bipush 90, 2) := by decide +kernel
theorem dX12_burnt_58 : decode cX12_burnt 58 = .ok (.if_icmp .le 7, 3) := by decide +kernel
theorem dX12_burnt_61 : decode cX12_burnt 61 = .ok (.iconst 1, 1) := by decide +kernel
theorem dX12_burnt_62 : decode cX12_burnt 62 = .ok (.goto 4, 3) := by decide +kernel
theorem dX12_burnt_65 : decode cX12_burnt 65 = .ok (.iconst 0, 1) := by decide +kernel
theorem dX12_burnt_66 : decode cX12_burnt 66 = .ok (.iadd, 1) := by decide +kernel
theorem dX12_burnt_67 : decode cX12_burnt 67 = .ok (.istore_n 2, 1) := by decide +kernel
theorem dX12_burnt_68 : decode cX12_burnt 68 = .ok (.iinc 5 1, 3) := by decide +kernel
theorem dX12_burnt_71 : decode cX12_burnt 71 = .ok (.goto (-31), 3) := by decide +kernel
theorem dX12_burnt_74 : decode cX12_burnt 74 = .ok (.iload_n 2, 1) := by decide +kernel
theorem dX12_burnt_75 : decode cX12_burnt 75 = .ok (.ireturn, 1) := by decide +kernel
theorem dX12_gap_0 : decode cX12_gap 0 = .ok (.aload_n 0, 1) := by decide +kernel
theorem dX12_gap_1 : decode cX12_gap 1 = .ok (.invokevirtual 48, 3) := by decide +kernel
theorem dX12_gap_4 : decode cX12_gap 4 = .ok (.aload_n 0, 1) := by decide +kernel
theorem dX12_gap_5 : decode cX12_gap 5 = .ok (.iload_n 1, 1) := by decide +kernel
theorem dX12_gap_6 : decode cX12_gap 6 = .ok (.i2l, 1) := by decide +kernel
theorem dX12_gap_7 : decode cX12_gap 7 = .ok (.lconst 1, 1) := by decide +kernel
theorem dX12_gap_8 : decode cX12_gap 8 = .ok (.ldc2_w 218, 3) := by decide +kernel
theorem dX12_gap_11 : decode cX12_gap 11 = .ok (.invokestatic 44, 3) := by decide +kernel
theorem dX12_gap_14 : decode cX12_gap 14 = .ok (.ifCond .eq 29, 3) := by decide +kernel
theorem dX12_gap_17 : decode cX12_gap 17 = .ok (.iload_n 2, 1) := by decide +kernel
theorem dX12_gap_18 : decode cX12_gap 18 = .ok (.i2l, 1) := by decide +kernel
theorem dX12_gap_19 : decode cX12_gap 19 = .ok (.ldc2_w 86, 3) := by decide +kernel
theorem dX12_gap_22 : decode cX12_gap 22 = .ok (.ldc2_w 88, 3) := by decide +kernel
theorem dX12_gap_25 : decode cX12_gap 25 = .ok (.invokestatic 44, 3) := by decide +kernel
theorem dX12_gap_28 : decode cX12_gap 28 = .ok (.ifCond .eq 15, 3) := by decide +kernel
theorem dX12_gap_31 : decode cX12_gap 31 = .ok (.iload_n 3, 1) := by decide +kernel
theorem dX12_gap_32 : decode cX12_gap 32 = .ok (.i2l, 1) := by decide +kernel
theorem dX12_gap_33 : decode cX12_gap 33 = .ok (.lconst 0, 1) := by decide +kernel
theorem dX12_gap_34 : decode cX12_gap 34 = .ok (.ldc2_w 354, 3) := by decide +kernel
theorem dX12_gap_37 : decode cX12_gap 37 = .ok (.invokestatic 44, 3) := by decide +kernel
theorem dX12_gap_40 : decode cX12_gap 40 = .ok (.ifCond .ne 7, 3) := by decide +kernel
theorem dX12_gap_43 : decode cX12_gap 43 = .ok (.iconst 1, 1) := by decide +kernel
theorem dX12_gap_44 : decode cX12_gap 44 = .ok (.goto 4, 3) := by decide +kernel
theorem dX12_gap_47 : decode cX12_gap 47 = .ok (.iconst 0, 1) := by decide +kernel
theorem dX12_gap_48 : decode cX12_gap 48 = .ok (.iconst 1, 1) := by decide +kernel
theorem dX12_gap_49 : decode cX12_gap 49 = .ok (.invokevirtual 67, 3) := by decide +kernel
theorem dX12_gap_52 : decode cX12_gap 52 = .ok (.ifCond .eq 5, 3) := by decide +kernel
theorem dX12_gap_55 : decode cX12_gap 55 = .ok (.iconst (-1), 1) := by decide +kernel
theorem dX12_gap_56 : decode cX12_gap 56 = .ok (.ireturn, 1) := by decide +kernel
theorem dX12_gap_57 : decode cX12_gap 57 = .ok (.iconst 0, 1) := by decide +kernel
theorem dX12_gap_58 : decode cX12_gap 58 = .ok (.iload_n 1, 1) := by decide +kernel
theorem dX12_gap_59 : decode cX12_gap 59 = .ok (.bipush 10, 2) := by decide +kernel
theorem dX12_gap_61 : decode cX12_gap 61 = .ok (.iload_n 2, 1) := by decide +kernel
theorem dX12_gap_62 : decode cX12_gap 62 = .ok (.imul, 1) := by decide +kernel
theorem dX12_gap_63 : decode cX12_gap 63 = .ok (.getstatic 356, 3) := by decide +kernel
theorem dX12_gap_66 : decode cX12_gap 66 = .ok (.iload_n 3, 1) := by decide +kernel
theorem dX12_gap_67 : decode cX12_gap 67 = .ok (.iaload, 1) := by decide +kernel
theorem dX12_gap_68 : decode cX12_gap 68 = .ok (.imul, 1) := by decide +kernel
theorem dX12_gap_69 : decode cX12_gap 69 = .ok (.sipush 1000, 3) := by decide +kernel
theorem dX12_gap_72 : decode cX12_gap 72 = .ok (.idiv, 1) := by decide +kernel
theorem dX12_gap_73 : decode cX12_gap 73 = .ok (.isub, 1) := by decide +kernel
theorem dX12_gap_74 : decode cX12_gap 74 = .ok (.invokestatic 268, 3) := by decide +kernel
theorem dX12_gap_77 : decode cX12_gap 77 = .ok (.ireturn, 1) := by decide +kernel
theorem dX12_offcuts_0 : decode cX12_offcuts 0 = .ok (.aload_n 0, 1) := by decide +kernel
theorem dX12_offcuts_1 : decode cX12_offcuts 1 = .ok (.invokevirtual 48, 3) := by decide +kernel
theorem dX12_offcuts_4 : decode cX12_offcuts 4 = .ok (.iconst 0, 1) := by decide +kernel
theorem dX12_offcuts_5 : decode cX12_offcuts 5 = .ok (.istore_n 2, 1) := by decide +kernel
theorem dX12_offcuts_6 : decode cX12_offcuts 6 = .ok (.aload_n 0, 1) := by decide +kernel
theorem dX12_offcuts_7 : decode cX12_offcuts 7 = .ok (.getfield 25, 3) := by decide +kernel
theorem dX12_offcuts_10 : decode cX12_offcuts 10 = .ok (.invokeinterface 288 1, 5) := by decide +kernel
theorem dX12_offcuts_15 : decode cX12_offcuts 15 = .ok (.astore_n 3, 1) := by decide +kernel
theorem dX12_offcuts_16 : decode cX12_offcuts 16 = .ok (.aload_n 3, 1) := by decide +kernel
theorem dX12_offcuts_17 : decode cX12_offcuts 17 = .ok (.invokeinterface 292 1, 5) := by decide +kernel
theorem dX12_offcuts_22 : decode cX12_offcuts 22 = .ok (.ifCond .eq 33, 3) := by decide +kernel
theorem dX12_offcuts_25 : decode cX12_offcuts 25 = .ok (.aload_n 3, 1) := by decide +kernel
theorem dX12_offcuts_26 : decode cX12_offcuts 26 = .ok (.invokeinterface 298 1, 5) := by decide +kernel
theorem dX12_offcuts_31 : decode cX12_offcuts 31 = .ok (.checkcast 359, 3) := by decide +kernel
theorem dX12_offcuts_34 : decode cX12_offcuts 34 = .ok (.astore 4, 2) := by decide +kernel
theorem dX12_offcuts_36 : decode cX12_offcuts 36 = .ok (.iload_n 2, 1) := by decide +kernel
theorem dX12_offcuts_37 : decode cX12_offcuts 37 = .ok (.aload 4, 2) := by decide +kernel
theorem dX12_offcuts_39 : decode cX12_offcuts 39 = .ok (.iconst 0, 1) := by decide +kernel
theorem dX12_offcuts_40 : decode cX12_offcuts 40 = .ok (.iaload, 1) := by decide +kernel
theorem dX12_offcuts_41 : decode cX12_offcuts 41 = .ok (.iload_n 1, 1) := by decide +kernel
theorem dX12_offcuts_42 : decode cX12_offcuts 42 = .ok (.if_icmp .ne 7, 3) := by decide +kernel
theorem dX12_offcuts_45 : decode cX12_offcuts 45 = .ok (.iconst 1, 1) := by decide +kernel
theorem dX12_offcuts_46 : decode cX12_offcuts 46 = .ok (.goto 4, 3) := by decide +kernel
theorem dX12_offcuts_49 : decode cX12_offcuts 49 = .ok (.iconst 0, 1) := by decide +kernel
theorem dX12_offcuts_50 : decode cX12_offcuts 50 = .ok (.iadd, 1) := by decide +kernel
theorem dX12_offcuts_51 : decode cX12_offcuts 51 = .ok (.istore_n 2, 1) := by decide +kernel
theorem dX12_offcuts_52 : decode cX12_offcuts 52 = .ok (.goto (-36), 3) := by decide +kernel
theorem dX12_offcuts_55 : decode cX12_offcuts 55 = .ok (.iload_n 2, 1) := by decide +kernel
theorem dX12_offcuts_56 : decode cX12_offcuts 56 = .ok (.ireturn, 1) := by decide +kernel
theorem dX12_takeOffcut_0 : decode cX12_takeOffcut 0 = .ok (.aload_n 0, 1) := by decide +kernel
theorem dX12_takeOffcut_1 : decode cX12_takeOffcut 1 = .ok (.invokevirtual 48, 3) := by decide +kernel
theorem dX12_takeOffcut_4 : decode cX12_takeOffcut 4 = .ok (.aload_n 0, 1) := by decide +kernel
theorem dX12_takeOffcut_5 : decode cX12_takeOffcut 5 = .ok (.iload_n 1, 1) := by decide +kernel
theorem dX12_takeOffcut_6 : decode cX12_takeOffcut 6 = .ok (.i2l, 1) := by decide +kernel
theorem dX12_takeOffcut_7 : decode cX12_takeOffcut 7 = .ok (.ldc2_w 360, 3) := by decide +kernel
theorem dX12_takeOffcut_10 : decode cX12_takeOffcut 10 = .ok (.ldc2_w 362, 3) := by decide +kernel
theorem dX12_takeOffcut_13 : decode cX12_takeOffcut 13 = .ok (.invokestatic 44, 3) := by decide +kernel
theorem dX12_takeOffcut_16 : decode cX12_takeOffcut 16 = .ok (.ifCond .eq 15, 3) := by decide +kernel
theorem dX12_takeOffcut_19 : decode cX12_takeOffcut 19 = .ok (.iload_n 2, 1) := by decide +kernel
theorem dX12_takeOffcut_20 : decode cX12_takeOffcut 20 = .ok (.i2l, 1) := by decide +kernel
theorem dX12_takeOffcut_21 : decode cX12_takeOffcut 21 = .ok (.lconst 1, 1) := by decide +kernel
theorem dX12_takeOffcut_22 : decode cX12_takeOffcut 22 = .ok (.ldc2_w 125, 3) := by decide +kernel
theorem dX12_takeOffcut_25 : decode cX12_takeOffcut 25 = .ok (.invokestatic 44, 3) := by decide +kernel
theorem dX12_takeOffcut_28 : decode cX12_takeOffcut 28 = .ok (.ifCond .ne 7, 3) := by decide +kernel
theorem dX12_takeOffcut_31 : decode cX12_takeOffcut 31 = .ok (.iconst 1, 1) := by decide +kernel
theorem dX12_takeOffcut_32 : decode cX12_takeOffcut 32 = .ok (.goto 4, 3) := by decide +kernel
theorem dX12_takeOffcut_35 : decode cX12_takeOffcut 35 = .ok (.iconst 0, 1) := by decide +kernel
theorem dX12_takeOffcut_36 : decode cX12_takeOffcut 36 = .ok (.iconst 1, 1) := by decide +kernel
theorem dX12_takeOffcut_37 : decode cX12_takeOffcut 37 = .ok (.invokevirtual 67, 3) := by decide +kernel
theorem dX12_takeOffcut_40 : decode cX12_takeOffcut 40 = .ok (.ifCond .eq 5, 3) := by decide +kernel
theorem dX12_takeOffcut_43 : decode cX12_takeOffcut 43 = .ok (.iconst (-1), 1) := by decide +kernel
theorem dX12_takeOffcut_44 : decode cX12_takeOffcut 44 = .ok (.ireturn, 1) := by decide +kernel
theorem dX12_takeOffcut_45 : decode cX12_takeOffcut 45 = .ok (.iconst (-1), 1) := by decide +kernel
theorem dX12_takeOffcut_46 : decode cX12_takeOffcut 46 = .ok (.istore_n 3, 1) := by decide +kernel
theorem dX12_takeOffcut_47 : decode cX12_takeOffcut 47 = .ok (.iconst 0, 1) := by decide +kernel
theorem dX12_takeOffcut_48 : decode cX12_takeOffcut 48 = .ok (.istore 4, 2) := by decide +kernel
theorem dX12_takeOffcut_50 : decode cX12_takeOffcut 50 = .ok (.iload 4, 2) := by decide +kernel
theorem dX12_takeOffcut_52 : decode cX12_takeOffcut 52 = .ok (.aload_n 0, 1) := by decide +kernel
theorem dX12_takeOffcut_53 : decode cX12_takeOffcut 53 = .ok (.getfield 25, 3) := by decide +kernel
theorem dX12_takeOffcut_56 : decode cX12_takeOffcut 56 = .ok (.invokeinterface 38 1, 5) := by decide +kernel
theorem dX12_takeOffcut_61 : decode cX12_takeOffcut 61 = .ok (.if_icmp .ge 143, 3) := by decide +kernel
theorem dX12_takeOffcut_64 : decode cX12_takeOffcut 64 = .ok (.aload_n 0, 1) := by decide +kernel
theorem dX12_takeOffcut_65 : decode cX12_takeOffcut 65 = .ok (.getfield 25, 3) := by decide +kernel
theorem dX12_takeOffcut_68 : decode cX12_takeOffcut 68 = .ok (.iload 4, 2) := by decide +kernel
theorem dX12_takeOffcut_70 : decode cX12_takeOffcut 70 = .ok (.invokeinterface 90 2, 5) := by decide +kernel
theorem dX12_takeOffcut_75 : decode cX12_takeOffcut 75 = .ok (.checkcast 359, 3) := by decide +kernel
theorem dX12_takeOffcut_78 : decode cX12_takeOffcut 78 = .ok (.astore 5, 2) := by decide +kernel
theorem dX12_takeOffcut_80 : decode cX12_takeOffcut 80 = .ok (.aload 5, 2) := by decide +kernel
theorem dX12_takeOffcut_82 : decode cX12_takeOffcut 82 = .ok (.iconst 0, 1) := by decide +kernel
theorem dX12_takeOffcut_83 : decode cX12_takeOffcut 83 = .ok (.iaload, 1) := by decide +kernel
theorem dX12_takeOffcut_84 : decode cX12_takeOffcut 84 = .ok (.iload_n 1, 1) := by decide +kernel
theorem dX12_takeOffcut_85 : decode cX12_takeOffcut 85 = .ok (.if_icmp .lt 15, 3) := by decide +kernel
theorem dX12_takeOffcut_88 : decode cX12_takeOffcut 88 = .ok (.aload 5, 2) := by decide +kernel
theorem dX12_takeOffcut_90 : decode cX12_takeOffcut 90 = .ok (.iconst 1, 1) := by decide +kernel
theorem dX12_takeOffcut_91 : decode cX12_takeOffcut 91 = .ok (.iaload, 1) := by decide +kernel
theorem dX12_takeOffcut_92 : decode cX12_takeOffcut 92 = .ok (.iload_n 2, 1) := by decide +kernel
theorem dX12_takeOffcut_93 : decode cX12_takeOffcut 93 = .ok (.if_icmp .lt 7, 3) := by decide +kernel
theorem dX12_takeOffcut_96 : decode cX12_takeOffcut 96 = .ok (.iconst 1, 1) := by decide +kernel
theorem dX12_takeOffcut_97 : decode cX12_takeOffcut 97 = .ok (.goto 4, 3) := by decide +kernel
theorem dX12_takeOffcut_100 : decode cX12_takeOffcut 100 = .ok (.iconst 0, 1) := by decide +kernel
theorem dX12_takeOffcut_101 : decode cX12_takeOffcut 101 = .ok (.istore 6, 2) := by decide +kernel
theorem dX12_takeOffcut_103 : decode cX12_takeOffcut 103 = .ok (.iload_n 3, 1) := by decide +kernel
theorem dX12_takeOffcut_104 : decode cX12_takeOffcut 104 = .ok (.iconst (-1), 1) := by decide +kernel
theorem dX12_takeOffcut_105 : decode cX12_takeOffcut 105 = .ok (.if_icmp .eq 69, 3) := by decide +kernel
theorem dX12_takeOffcut_108 : decode cX12_takeOffcut 108 = .ok (.aload 5, 2) := by decide +kernel
theorem dX12_takeOffcut_110 : decode cX12_takeOffcut 110 = .ok (.iconst 0, 1) := by decide +kernel
theorem dX12_takeOffcut_111 : decode cX12_takeOffcut 111 = .ok (.iaload, 1) := by decide +kernel
theorem dX12_takeOffcut_112 : decode cX12_takeOffcut 112 = .ok (.aload_n 0, 1) := by decide +kernel
theorem dX12_takeOffcut_113 : decode cX12_takeOffcut 113 = .ok (.getfield 25, 3) := by decide +kernel
theorem dX12_takeOffcut_116 : decode cX12_takeOffcut 116 = .ok (.iload_n 3, 1) := by decide +kernel
theorem dX12_takeOffcut_117 : decode cX12_takeOffcut 117 = .ok (.invokeinterface 90 2, 5) := by decide +kernel
theorem dX12_takeOffcut_122 : decode cX12_takeOffcut 122 = .ok (.checkcast 359, 3) := by decide +kernel
theorem dX12_takeOffcut_125 : decode cX12_takeOffcut 125 = .ok (.iconst 0, 1) := by decide +kernel
theorem dX12_takeOffcut_126 : decode cX12_takeOffcut 126 = .ok (.iaload, 1) := by decide +kernel
theorem dX12_takeOffcut_127 : decode cX12_takeOffcut 127 = .ok (.if_icmp .lt 47, 3) := by decide +kernel
theorem dX12_takeOffcut_130 : decode cX12_takeOffcut 130 = .ok (.aload 5, 2) := by decide +kernel
theorem dX12_takeOffcut_132 : decode cX12_takeOffcut 132 = .ok (.iconst 0, 1) := by decide +kernel
theorem dX12_takeOffcut_133 : decode cX12_takeOffcut 133 = .ok (.iaload, 1) := by decide +kernel
theorem dX12_takeOffcut_134 : decode cX12_takeOffcut 134 = .ok (.aload_n 0, 1) := by decide +kernel
theorem dX12_takeOffcut_135 : decode cX12_takeOffcut 135 = .ok (.getfield 25, 3) := by decide +kernel
theorem dX12_takeOffcut_138 : decode cX12_takeOffcut 138 = .ok (.iload_n 3, 1) := by decide +kernel
theorem dX12_takeOffcut_139 : decode cX12_takeOffcut 139 = .ok (.invokeinterface 90 2, 5) := by decide +kernel
theorem dX12_takeOffcut_144 : decode cX12_takeOffcut 144 = .ok (.checkcast 359, 3) := by decide +kernel
theorem dX12_takeOffcut_147 : decode cX12_takeOffcut 147 = .ok (.iconst 0, 1) := by decide +kernel
theorem dX12_takeOffcut_148 : decode cX12_takeOffcut 148 = .ok (.iaload, 1) := by decide +kernel
theorem dX12_takeOffcut_149 : decode cX12_takeOffcut 149 = .ok (.if_icmp .ne 29, 3) := by decide +kernel
theorem dX12_takeOffcut_152 : decode cX12_takeOffcut 152 = .ok (.aload 5, 2) := by decide +kernel
theorem dX12_takeOffcut_154 : decode cX12_takeOffcut 154 = .ok (.iconst 1, 1) := by decide +kernel
theorem dX12_takeOffcut_155 : decode cX12_takeOffcut 155 = .ok (.iaload, 1) := by decide +kernel
theorem dX12_takeOffcut_156 : decode cX12_takeOffcut 156 = .ok (.aload_n 0, 1) := by decide +kernel
theorem dX12_takeOffcut_157 : decode cX12_takeOffcut 157 = .ok (.getfield 25, 3) := by decide +kernel
theorem dX12_takeOffcut_160 : decode cX12_takeOffcut 160 = .ok (.iload_n 3, 1) := by decide +kernel
theorem dX12_takeOffcut_161 : decode cX12_takeOffcut 161 = .ok (.invokeinterface 90 2, 5) := by decide +kernel
theorem dX12_takeOffcut_166 : decode cX12_takeOffcut 166 = .ok (.checkcast 359, 3) := by decide +kernel
theorem dX12_takeOffcut_169 : decode cX12_takeOffcut 169 = .ok (.iconst 1, 1) := by decide +kernel
theorem dX12_takeOffcut_170 : decode cX12_takeOffcut 170 = .ok (.iaload, 1) := by decide +kernel
theorem dX12_takeOffcut_171 : decode cX12_takeOffcut 171 = .ok (.if_icmp .ge 7, 3) := by decide +kernel
theorem dX12_takeOffcut_174 : decode cX12_takeOffcut 174 = .ok (.iconst 1, 1) := by decide +kernel
theorem dX12_takeOffcut_175 : decode cX12_takeOffcut 175 = .ok (.goto 4, 3) := by decide +kernel
theorem dX12_takeOffcut_178 : decode cX12_takeOffcut 178 = .ok (.iconst 0, 1) := by decide +kernel
theorem dX12_takeOffcut_179 : decode cX12_takeOffcut 179 = .ok (.istore 7, 2) := by decide +kernel
theorem dX12_takeOffcut_181 : decode cX12_takeOffcut 181 = .ok (.iload 6, 2) := by decide +kernel
theorem dX12_takeOffcut_183 : decode cX12_takeOffcut 183 = .ok (.ifCond .eq 13, 3) := by decide +kernel
theorem dX12_takeOffcut_186 : decode cX12_takeOffcut 186 = .ok (.iload 7, 2) := by decide +kernel
theorem dX12_takeOffcut_188 : decode cX12_takeOffcut 188 = .ok (.ifCond .eq 8, 3) := by decide +kernel
theorem dX12_takeOffcut_191 : decode cX12_takeOffcut 191 = .ok (.iload 4, 2) := by decide +kernel
theorem dX12_takeOffcut_193 : decode cX12_takeOffcut 193 = .ok (.goto 4, 3) := by decide +kernel
theorem dX12_takeOffcut_196 : decode cX12_takeOffcut 196 = .ok (.iload_n 3, 1) := by decide +kernel
theorem dX12_takeOffcut_197 : decode cX12_takeOffcut 197 = .ok (.istore_n 3, 1) := by decide +kernel
theorem dX12_takeOffcut_198 : decode cX12_takeOffcut 198 = .ok (.iinc 4 1, 3) := by decide +kernel
theorem dX12_takeOffcut_201 : decode cX12_takeOffcut 201 = .ok (.goto (-151), 3) := by decide +kernel
theorem dX12_takeOffcut_204 : decode cX12_takeOffcut 204 = .ok (.aload_n 0, 1) := by decide +kernel
theorem dX12_takeOffcut_205 : decode cX12_takeOffcut 205 = .ok (.iload_n 3, 1) := by decide +kernel
theorem dX12_takeOffcut_206 : decode cX12_takeOffcut 206 = .ok (.iconst (-1), 1) := by decide +kernel
theorem dX12_takeOffcut_207 : decode cX12_takeOffcut 207 = .ok (.if_icmp .ne 7, 3) := by decide +kernel
theorem dX12_takeOffcut_210 : decode cX12_takeOffcut 210 = .ok (.iconst 1, 1) := by decide +kernel
theorem dX12_takeOffcut_211 : decode cX12_takeOffcut 211 = .ok (.goto 4, 3) := by decide +kernel
theorem dX12_takeOffcut_214 : decode cX12_takeOffcut 214 = .ok (.iconst 0, 1) := by decide +kernel
theorem dX12_takeOffcut_215 : decode cX12_takeOffcut 215 = .ok (.iconst 2, 1) := by decide +kernel
theorem dX12_takeOffcut_216 : decode cX12_takeOffcut 216 = .ok (.invokevirtual 67, 3) := by decide +kernel
theorem dX12_takeOffcut_219 : decode cX12_takeOffcut 219 = .ok (.ifCond .eq 5, 3) := by decide +kernel
theorem dX12_takeOffcut_222 : decode cX12_takeOffcut 222 = .ok (.iconst (-1), 1) := by decide +kernel
theorem dX12_takeOffcut_223 : decode cX12_takeOffcut 223 = .ok (.ireturn, 1) := by decide +kernel
theorem dX12_takeOffcut_224 : decode cX12_takeOffcut 224 = .ok (.aload_n 0, 1) := by decide +kernel
theorem dX12_takeOffcut_225 : decode cX12_takeOffcut 225 = .ok (.getfield 25, 3) := by decide +kernel
theorem dX12_takeOffcut_228 : decode cX12_takeOffcut 228 = .ok (.iload_n 3, 1) := by decide +kernel
theorem dX12_takeOffcut_229 : decode cX12_takeOffcut 229 = .ok (.invokeinterface 364 2, 5) := by decide +kernel
theorem dX12_takeOffcut_234 : decode cX12_takeOffcut 234 = .ok (.checkcast 359, 3) := by decide +kernel
theorem dX12_takeOffcut_237 : decode cX12_takeOffcut 237 = .ok (.astore 4, 2) := by decide +kernel
theorem dX12_takeOffcut_239 : decode cX12_takeOffcut 239 = .ok (.aload_n 0, 1) := by decide +kernel
theorem dX12_takeOffcut_240 : decode cX12_takeOffcut 240 = .ok (.dup, 1) := by decide +kernel
theorem dX12_takeOffcut_241 : decode cX12_takeOffcut 241 = .ok (.getfield 367, 3) := by decide +kernel
theorem dX12_takeOffcut_244 : decode cX12_takeOffcut 244 = .ok (.aload 4, 2) := by decide +kernel
theorem dX12_takeOffcut_246 : decode cX12_takeOffcut 246 = .ok (.iconst 0, 1) := by decide +kernel
theorem dX12_takeOffcut_247 : decode cX12_takeOffcut 247 = .ok (.iaload, 1) := by decide +kernel
theorem dX12_takeOffcut_248 : decode cX12_takeOffcut 248 = .ok (.aload 4, 2) := by decide +kernel
theorem dX12_takeOffcut_250 : decode cX12_takeOffcut 250 = .ok (.iconst 1, 1) := by decide +kernel
theorem dX12_takeOffcut_251 : decode cX12_takeOffcut 251 = .ok (.iaload, 1) := by decide +kernel
theorem dX12_takeOffcut_252 : decode cX12_takeOffcut 252 = .ok (.imul, 1) := by decide +kernel
theorem dX12_takeOffcut_253 : decode cX12_takeOffcut 253 = .ok (.iadd, 1) := by decide +kernel
theorem dX12_takeOffcut_254 : decode cX12_takeOffcut 254 = .ok (.putfield 367, 3) := by decide +kernel
theorem dX12_takeOffcut_257 : decode cX12_takeOffcut 257 = .ok (.aload 4, 2) := by decide +kernel
theorem dX12_takeOffcut_259 : decode cX12_takeOffcut 259 = .ok (.iconst 0, 1) := by decide +kernel
theorem dX12_takeOffcut_260 : decode cX12_takeOffcut 260 = .ok (.iaload, 1) := by decide +kernel
theorem dX12_takeOffcut_261 : decode cX12_takeOffcut 261 = .ok (.ireturn, 1) := by decide +kernel
theorem dX12_unused_0 : decode cX12_unused 0 = .ok (.iconst 0, 1) := by decide +kernel
theorem dX12_unused_1 : decode cX12_unused 1 = .ok (.istore_n 1, 1) := by decide +kernel
theorem dX12_unused_2 : decode cX12_unused 2 = .ok (.aload_n 0, 1) := by decide +kernel
theorem dX12_unused_3 : decode cX12_unused 3 = .ok (.getfield 16, 3) := by decide +kernel
theorem dX12_unused_6 : decode cX12_unused 6 = .ok (.invokeinterface 288 1, 5) := by decide +kernel
theorem dX12_unused_11 : decode cX12_unused 11 = .ok (.astore_n 2, 1) := by decide +kernel
theorem dX12_unused_12 : decode cX12_unused 12 = .ok (.aload_n 2, 1) := by decide +kernel
theorem dX12_unused_13 : decode cX12_unused 13 = .ok (.invokeinterface 292 1, 5) := by decide +kernel
theorem dX12_unused_18 : decode cX12_unused 18 = .ok (.ifCond .eq 58, 3) := by decide +kernel
theorem dX12_unused_21 : decode cX12_unused 21 = .ok (.aload_n 2, 1) := by decide +kernel
theorem dX12_unused_22 : decode cX12_unused 22 = .ok (.invokeinterface 298 1, 5) := by decide +kernel
theorem dX12_unused_27 : decode cX12_unused 27 = .ok (.checkcast 98, 3) := by decide +kernel
theorem dX12_unused_30 : decode cX12_unused 30 = .ok (.astore_n 3, 1) := by decide +kernel
theorem dX12_unused_31 : decode cX12_unused 31 = .ok (.iconst 0, 1) := by decide +kernel
theorem dX12_unused_32 : decode cX12_unused 32 = .ok (.istore 4, 2) := by decide +kernel
theorem dX12_unused_34 : decode cX12_unused 34 = .ok (.iload 4, 2) := by decide +kernel
theorem dX12_unused_36 : decode cX12_unused 36 = .ok (.aload_n 3, 1) := by decide +kernel
theorem dX12_unused_37 : decode cX12_unused 37 = .ok (.getfield 103, 3) := by decide +kernel
theorem dX12_unused_40 : decode cX12_unused 40 = .ok (.arraylength, 1) := by decide +kernel
theorem dX12_unused_41 : decode cX12_unused 41 = .ok (.if_icmp .ge 32, 3) := by decide +kernel
theorem dX12_unused_44 : decode cX12_unused 44 = .ok (.iload_n 1, 1) := by decide +kernel
theorem dX12_unused_45 : decode cX12_unused 45 = .ok (.aload_n 3, 1) := by decide +kernel
theorem dX12_unused_46 : decode cX12_unused 46 = .ok (.getfield 103, 3) := by decide +kernel
theorem dX12_unused_49 : decode cX12_unused 49 = .ok (.iload 4, 2) := by decide +kernel
theorem dX12_unused_51 : decode cX12_unused 51 = .ok (.baload, 1) := by decide +kernel
theorem dX12_unused_52 : decode cX12_unused 52 = .ok (.ifCond .eq 7, 3) := by decide +kernel
theorem dX12_unused_55 : decode cX12_unused 55 = .ok (.iconst 0, 1) := by decide +kernel
theorem dX12_unused_56 : decode cX12_unused 56 = .ok (.goto 9, 3) := by decide +kernel
theorem dX12_unused_59 : decode cX12_unused 59 = .ok (.aload_n 3, 1) := by decide +kernel
theorem dX12_unused_60 : decode cX12_unused 60 = .ok (.iload 4, 2) := by decide +kernel
theorem dX12_unused_62 : decode cX12_unused 62 = .ok (.invokevirtual 117, 3) := by decide +kernel
theorem dX12_unused_65 : decode cX12_unused 65 = .ok (.iadd, 1) := by decide +kernel
theorem dX12_unused_66 : decode cX12_unused 66 = .ok (.istore_n 1, 1) := by decide +kernel
theorem dX12_unused_67 : decode cX12_unused 67 = .ok (.iinc 4 1, 3) := by decide +kernel
theorem dX12_unused_70 : decode cX12_unused 70 = .ok (.goto (-36), 3) := by decide +kernel
theorem dX12_unused_73 : decode cX12_unused 73 = .ok (.goto (-61), 3) := by decide +kernel
theorem dX12_unused_76 : decode cX12_unused 76 = .ok (.iload_n 1, 1) := by decide +kernel
theorem dX12_unused_77 : decode cX12_unused 77 = .ok (.ireturn, 1) := by decide +kernel
theorem dX12_account_0 : decode cX12_account 0 = .ok (.aload_n 0, 1) := by decide +kernel
theorem dX12_account_1 : decode cX12_account 1 = .ok (.invokevirtual 48, 3) := by decide +kernel
theorem dX12_account_4 : decode cX12_account 4 = .ok (.iconst 0, 1) := by decide +kernel
theorem dX12_account_5 : decode cX12_account 5 = .ok (.istore_n 2, 1) := by decide +kernel
theorem dX12_account_6 : decode cX12_account 6 = .ok (.aload_n 0, 1) := by decide +kernel
theorem dX12_account_7 : decode cX12_account 7 = .ok (.getfield 25, 3) := by decide +kernel
theorem dX12_account_10 : decode cX12_account 10 = .ok (.invokeinterface 288 1, 5) := by decide +kernel
theorem dX12_account_15 : decode cX12_account 15 = .ok (.astore_n 3, 1) := by decide +kernel
theorem dX12_account_16 : decode cX12_account 16 = .ok (.aload_n 3, 1) := by decide +kernel
theorem dX12_account_17 : decode cX12_account 17 = .ok (.invokeinterface 292 1, 5) := by decide +kernel
theorem dX12_account_22 : decode cX12_account 22 = .ok (.ifCond .eq 29, 3) := by decide +kernel
theorem dX12_account_25 : decode cX12_account 25 = .ok (.aload_n 3, 1) := by decide +kernel
theorem dX12_account_26 : decode cX12_account 26 = .ok (.invokeinterface 298 1, 5) := by decide +kernel
theorem dX12_account_31 : decode cX12_account 31 = .ok (.checkcast 359, 3) := by decide +kernel
theorem dX12_account_34 : decode cX12_account 34 = .ok (.astore 4, 2) := by decide +kernel
theorem dX12_account_36 : decode cX12_account 36 = .ok (.iload_n 2, 1) := by decide +kernel
theorem dX12_account_37 : decode cX12_account 37 = .ok (.aload 4, 2) := by decide +kernel
theorem dX12_account_39 : decode cX12_account 39 = .ok (.iconst 0, 1) := by decide +kernel
theorem dX12_account_40 : decode cX12_account 40 = .ok (.iaload, 1) := by decide +kernel
theorem dX12_account_41 : decode cX12_account 41 = .ok (.aload 4, 2) := by decide +kernel
theorem dX12_account_43 : decode cX12_account 43 = .ok (.iconst 1, 1) := by decide +kernel
theorem dX12_account_44 : decode cX12_account 44 = .ok (.iaload, 1) := by decide +kernel
theorem dX12_account_45 : decode cX12_account 45 = .ok (.imul, 1) := by decide +kernel
theorem dX12_account_46 : decode cX12_account 46 = .ok (.iadd, 1) := by decide +kernel
theorem dX12_account_47 : decode cX12_account 47 = .ok (.istore_n 2, 1) := by decide +kernel
theorem dX12_account_48 : decode cX12_account 48 = .ok (.goto (-32), 3) := by decide +kernel
theorem dX12_account_51 : decode cX12_account 51 = .ok (.bipush 7, 2) := by decide +kernel
theorem dX12_account_53 : decode cX12_account 53 = .ok (.newarray .int, 2) := by decide +kernel
theorem dX12_account_55 : decode cX12_account 55 = .ok (.dup, 1) := by decide +kernel
theorem dX12_account_56 : decode cX12_account 56 = .ok (.iconst 0, 1) := by decide +kernel
theorem dX12_account_57 : decode cX12_account 57 = .ok (.aload_n 0, 1) := by decide +kernel
theorem dX12_account_58 : decode cX12_account 58 = .ok (.getfield 204, 3) := by decide +kernel
theorem dX12_account_61 : decode cX12_account 61 = .ok (.iastore, 1) := by decide +kernel
theorem dX12_account_62 : decode cX12_account 62 = .ok (.dup, 1) := by decide +kernel
theorem dX12_account_63 : decode cX12_account 63 = .ok (.iconst 1, 1) := by decide +kernel
theorem dX12_account_64 : decode cX12_account 64 = .ok (.aload_n 0, 1) := by decide +kernel
theorem dX12_account_65 : decode cX12_account 65 = .ok (.getfield 213, 3) := by decide +kernel
theorem dX12_account_68 : decode cX12_account 68 = .ok (.iastore, 1) := by decide +kernel
theorem dX12_account_69 : decode cX12_account 69 = .ok (.dup, 1) := by decide +kernel
theorem dX12_account_70 : decode cX12_account 70 = .ok (.iconst 2, 1) := by decide +kernel
theorem dX12_account_71 : decode cX12_account 71 = .ok (.aload_n 0, 1) := by decide +kernel
theorem dX12_account_72 : decode cX12_account 72 = .ok (.getfield 336, 3) := by decide +kernel
theorem dX12_account_75 : decode cX12_account 75 = .ok (.iastore, 1) := by decide +kernel
theorem dX12_account_76 : decode cX12_account 76 = .ok (.dup, 1) := by decide +kernel
theorem dX12_account_77 : decode cX12_account 77 = .ok (.iconst 3, 1) := by decide +kernel
theorem dX12_account_78 : decode cX12_account 78 = .ok (.iload_n 2, 1) := by decide +kernel
theorem dX12_account_79 : decode cX12_account 79 = .ok (.iastore, 1) := by decide +kernel
theorem dX12_account_80 : decode cX12_account 80 = .ok (.dup, 1) := by decide +kernel
theorem dX12_account_81 : decode cX12_account 81 = .ok (.iconst 4, 1) := by decide +kernel
theorem dX12_account_82 : decode cX12_account 82 = .ok (.aload_n 0, 1) := by decide +kernel
theorem dX12_account_83 : decode cX12_account 83 = .ok (.getfield 367, 3) := by decide +kernel
theorem dX12_account_86 : decode cX12_account 86 = .ok (.iastore, 1) := by decide +kernel
theorem dX12_account_87 : decode cX12_account 87 = .ok (.dup, 1) := by decide +kernel
theorem dX12_account_88 : decode cX12_account 88 = .ok (.iconst 5, 1) := by decide +kernel
theorem dX12_account_89 : decode cX12_account 89 = .ok (.aload_n 0, 1) := by decide +kernel
theorem dX12_account_90 : decode cX12_account 90 = .ok (.getfield 168, 3) := by decide +kernel
theorem dX12_account_93 : decode cX12_account 93 = .ok (.iastore, 1) := by decide +kernel
theorem dX12_account_94 : decode cX12_account 94 = .ok (.dup, 1) := by decide +kernel
theorem dX12_account_95 : decode cX12_account 95 = .ok (.bipush 6, 2) := by decide +kernel
theorem dX12_account_97 : decode cX12_account 97 = .ok (.aload_n 0, 1) := by decide +kernel
theorem dX12_account_98 : decode cX12_account 98 = .ok (.invokevirtual 370, 3) := by decide +kernel
theorem dX12_account_101 : decode cX12_account 101 = .ok (.iastore, 1) := by decide +kernel
theorem dX12_account_102 : decode cX12_account 102 = .ok (.astore_n 3, 1) := by decide +kernel
theorem dX12_account_103 : decode cX12_account 103 = .ok (.aload_n 0, 1) := by decide +kernel
theorem dX12_account_104 : decode cX12_account 104 = .ok (.ldc_w 373, 3) := by decide +kernel
theorem dX12_account_107 : decode cX12_account 107 = .ok (.iload_n 1, 1) := by decide +kernel
theorem dX12_account_108 : decode cX12_account 108 = .ok (.invokevirtual 53, 3) := by decide +kernel
theorem dX12_account_111 : decode cX12_account 111 = .ok (.ifCond .ge 7, 3) := by decide +kernel
theorem dX12_account_114 : decode cX12_account 114 = .ok (.iconst 1, 1) := by decide +kernel
theorem dX12_account_115 : decode cX12_account 115 = .ok (.goto 4, 3) := by decide +kernel
theorem dX12_account_118 : decode cX12_account 118 = .ok (.iconst 0, 1) := by decide +kernel
theorem dX12_account_119 : decode cX12_account 119 = .ok (.iconst 1, 1) := by decide +kernel
theorem dX12_account_120 : decode cX12_account 120 = .ok (.invokevirtual 67, 3) := by decide +kernel
theorem dX12_account_123 : decode cX12_account 123 = .ok (.ifCond .eq 7, 3) := by decide +kernel
theorem dX12_account_126 : decode cX12_account 126 = .ok (.iconst (-1), 1) := by decide +kernel
theorem dX12_account_127 : decode cX12_account 127 = .ok (.goto 12, 3) := by decide +kernel
theorem dX12_account_130 : decode cX12_account 130 = .ok (.aload_n 3, 1) := by decide +kernel
theorem dX12_account_131 : decode cX12_account 131 = .ok (.ldc_w 373, 3) := by decide +kernel
theorem dX12_account_134 : decode cX12_account 134 = .ok (.iload_n 1, 1) := by decide +kernel
theorem dX12_account_135 : decode cX12_account 135 = .ok (.invokevirtual 53, 3) := by decide +kernel
theorem dX12_account_138 : decode cX12_account 138 = .ok (.iaload, 1) := by decide +kernel
theorem dX12_account_139 : decode cX12_account 139 = .ok (.ireturn, 1) := by decide +kernel
theorem dX12_priceOf_0 : decode cX12_priceOf 0 = .ok (.aload_n 0, 1) := by decide +kernel
theorem dX12_priceOf_1 : decode cX12_priceOf 1 = .ok (.getfield 186, 3) := by decide +kernel
theorem dX12_priceOf_4 : decode cX12_priceOf 4 = .ok (.ifnonnull 7, 3) := by decide +kernel
theorem dX12_priceOf_7 : decode cX12_priceOf 7 = .ok (.iconst 0, 1) := by decide +kernel
theorem dX12_priceOf_8 : decode cX12_priceOf 8 = .ok (.goto 15, 3) := by decide +kernel
theorem dX12_priceOf_11 : decode cX12_priceOf 11 = .ok (.aload_n 0, 1) := by decide +kernel
theorem dX12_priceOf_12 : decode cX12_priceOf 12 = .ok (.getfield 140, 3) := by decide +kernel
theorem dX12_priceOf_15 : decode cX12_priceOf 15 = .ok (.aload_n 0, 1) := by decide +kernel
theorem dX12_priceOf_16 : decode cX12_priceOf 16 = .ok (.getfield 149, 3) := by decide +kernel
theorem dX12_priceOf_19 : decode cX12_priceOf 19 = .ok (.imul, 1) := by decide +kernel
theorem dX12_priceOf_20 : decode cX12_priceOf 20 = .ok (.bipush 10, 2) := by decide +kernel
theorem dX12_priceOf_22 : decode cX12_priceOf 22 = .ok (.idiv, 1) := by decide +kernel
theorem dX12_priceOf_23 : decode cX12_priceOf 23 = .ok (.istore_n 1, 1) := by decide +kernel
theorem dX12_priceOf_24 : decode cX12_priceOf 24 = .ok (.iconst 2, 1) := by decide +kernel
theorem dX12_priceOf_25 : decode cX12_priceOf 25 = .ok (.aload_n 0, 1) := by decide +kernel
theorem dX12_priceOf_26 : decode cX12_priceOf 26 = .ok (.invokevirtual 375, 3) := by decide +kernel
theorem dX12_priceOf_29 : decode cX12_priceOf 29 = .ok (.imul, 1) := by decide +kernel
theorem dX12_priceOf_30 : decode cX12_priceOf 30 = .ok (.iload_n 1, 1) := by decide +kernel
theorem dX12_priceOf_31 : decode cX12_priceOf 31 = .ok (.iadd, 1) := by decide +kernel
theorem dX12_priceOf_32 : decode cX12_priceOf 32 = .ok (.aload_n 0, 1) := by decide +kernel
theorem dX12_priceOf_33 : decode cX12_priceOf 33 = .ok (.getfield 210, 3) := by decide +kernel
theorem dX12_priceOf_36 : decode cX12_priceOf 36 = .ok (.ifCond .eq 7, 3) := by decide +kernel
theorem dX12_priceOf_39 : decode cX12_priceOf 39 = .ok (.iconst 5, 1) := by decide +kernel
theorem dX12_priceOf_40 : decode cX12_priceOf 40 = .ok (.goto 4, 3) := by decide +kernel
theorem dX12_priceOf_43 : decode cX12_priceOf 43 = .ok (.iconst 0, 1) := by decide +kernel
theorem dX12_priceOf_44 : decode cX12_priceOf 44 = .ok (.iadd, 1) := by decide +kernel
theorem dX12_priceOf_45 : decode cX12_priceOf 45 = .ok (.aload_n 0, 1) := by decide +kernel
theorem dX12_priceOf_46 : decode cX12_priceOf 46 = .ok (.getfield 282, 3) := by decide +kernel
theorem dX12_priceOf_49 : decode cX12_priceOf 49 = .ok (.iadd, 1) := by decide +kernel
theorem dX12_priceOf_50 : decode cX12_priceOf 50 = .ok (.iconst 3, 1) := by decide +kernel
theorem dX12_priceOf_51 : decode cX12_priceOf 51 = .ok (.aload_n 0, 1) := by decide +kernel
theorem dX12_priceOf_52 : decode cX12_priceOf 52 = .ok (.getfield 226, 3) := by decide +kernel
theorem dX12_priceOf_55 : decode cX12_priceOf 55 = .ok (.aload_n 0, 1) := by decide +kernel
theorem dX12_priceOf_56 : decode cX12_priceOf 56 = .ok (.getfield 285, 3) := by decide +kernel
theorem dX12_priceOf_59 : decode cX12_priceOf 59 = .ok (.iadd, 1) := by decide +kernel
theorem dX12_priceOf_60 : decode cX12_priceOf 60 = .ok (.imul, 1) := by decide +kernel
theorem dX12_priceOf_61 : decode cX12_priceOf 61 = .ok (.isub, 1) := by decide +kernel
theorem dX12_priceOf_62 : decode cX12_priceOf 62 = .ok (.ireturn, 1) := by decide +kernel
theorem dX12_price_0 : decode cX12_price 0 = .ok (.aload_n 0, 1) := by decide +kernel
theorem dX12_price_1 : decode cX12_price 1 = .ok (.invokevirtual 48, 3) := by decide +kernel
theorem dX12_price_4 : decode cX12_price 4 = .ok (.aload_n 0, 1) := by decide +kernel
theorem dX12_price_5 : decode cX12_price 5 = .ok (.iload_n 1, 1) := by decide +kernel
theorem dX12_price_6 : decode cX12_price 6 = .ok (.invokevirtual 171, 3) := by decide +kernel
theorem dX12_price_9 : decode cX12_price 9 = .ok (.ifCond .eq 7, 3) := by decide +kernel
theorem dX12_price_12 : decode cX12_price 12 = .ok (.iconst (-1), 1) := by decide +kernel
theorem dX12_price_13 : decode cX12_price 13 = .ok (.goto 19, 3) := by decide +kernel
theorem dX12_price_16 : decode cX12_price 16 = .ok (.aload_n 0, 1) := by decide +kernel
theorem dX12_price_17 : decode cX12_price 17 = .ok (.getfield 19, 3) := by decide +kernel
theorem dX12_price_20 : decode cX12_price 20 = .ok (.iload_n 1, 1) := by decide +kernel
theorem dX12_price_21 : decode cX12_price 21 = .ok (.invokeinterface 90 2, 5) := by decide +kernel
theorem dX12_price_26 : decode cX12_price 26 = .ok (.checkcast 129, 3) := by decide +kernel
theorem dX12_price_29 : decode cX12_price 29 = .ok (.invokestatic 378, 3) := by decide +kernel
theorem dX12_price_32 : decode cX12_price 32 = .ok (.ireturn, 1) := by decide +kernel
theorem dX12_leavesIn_0 : decode cX12_leavesIn 0 = .ok (.iconst 0, 1) := by decide +kernel
theorem dX12_leavesIn_1 : decode cX12_leavesIn 1 = .ok (.istore_n 2, 1) := by decide +kernel
theorem dX12_leavesIn_2 : decode cX12_leavesIn 2 = .ok (.aload_n 0, 1) := by decide +kernel
theorem dX12_leavesIn_3 : decode cX12_leavesIn 3 = .ok (.getfield 16, 3) := by decide +kernel
theorem dX12_leavesIn_6 : decode cX12_leavesIn 6 = .ok (.invokeinterface 288 1, 5) := by decide +kernel
theorem dX12_leavesIn_11 : decode cX12_leavesIn 11 = .ok (.astore_n 3, 1) := by decide +kernel
theorem dX12_leavesIn_12 : decode cX12_leavesIn 12 = .ok (.aload_n 3, 1) := by decide +kernel
theorem dX12_leavesIn_13 : decode cX12_leavesIn 13 = .ok (.invokeinterface 292 1, 5) := by decide +kernel
theorem dX12_leavesIn_18 : decode cX12_leavesIn 18 = .ok (.ifCond .eq 69, 3) := by decide +kernel
theorem dX12_leavesIn_21 : decode cX12_leavesIn 21 = .ok (.aload_n 3, 1) := by decide +kernel
theorem dX12_leavesIn_22 : decode cX12_leavesIn 22 = .ok (.invokeinterface 298 1, 5) := by decide +kernel
theorem dX12_leavesIn_27 : decode cX12_leavesIn 27 = .ok (.checkcast 98, 3) := by decide +kernel
theorem dX12_leavesIn_30 : decode cX12_leavesIn 30 = .ok (.astore 4, 2) := by decide +kernel
theorem dX12_leavesIn_32 : decode cX12_leavesIn 32 = .ok (.aload 4, 2) := by decide +kernel
theorem dX12_leavesIn_34 : decode cX12_leavesIn 34 = .ok (.getfield 103, 3) := by decide +kernel
theorem dX12_leavesIn_37 : decode cX12_leavesIn 37 = .ok (.astore 5, 2) := by decide +kernel
theorem dX12_leavesIn_39 : decode cX12_leavesIn 39 = .ok (.aload 5, 2) := by decide +kernel
theorem dX12_leavesIn_41 : decode cX12_leavesIn 41 = .ok (.arraylength, 1) := by decide +kernel
theorem dX12_leavesIn_42 : decode cX12_leavesIn 42 = .ok (.istore 6, 2) := by decide +kernel
theorem dX12_leavesIn_44 : decode cX12_leavesIn 44 = .ok (.iconst 0, 1) := by decide +kernel
theorem dX12_leavesIn_45 : decode cX12_leavesIn 45 = .ok (.istore 7, 2) := by decide +kernel
theorem dX12_leavesIn_47 : decode cX12_leavesIn 47 = .ok (.iload 7, 2) := by decide +kernel
theorem dX12_leavesIn_49 : decode cX12_leavesIn 49 = .ok (.iload 6, 2) := by decide +kernel
theorem dX12_leavesIn_51 : decode cX12_leavesIn 51 = .ok (.if_icmp .ge 33, 3) := by decide +kernel
theorem dX12_leavesIn_54 : decode cX12_leavesIn 54 = .ok (.aload 5, 2) := by decide +kernel
theorem dX12_leavesIn_56 : decode cX12_leavesIn 56 = .ok (.iload 7, 2) := by decide +kernel
theorem dX12_leavesIn_58 : decode cX12_leavesIn 58 = .ok (.baload, 1) := by decide +kernel
theorem dX12_leavesIn_59 : decode cX12_leavesIn 59 = .ok (.istore 8, 2) := by decide +kernel
theorem dX12_leavesIn_61 : decode cX12_leavesIn 61 = .ok (.iload_n 2, 1) := by decide +kernel
theorem dX12_leavesIn_62 : decode cX12_leavesIn 62 = .ok (.iload 8, 2) := by decide +kernel
theorem dX12_leavesIn_64 : decode cX12_leavesIn 64 = .ok (.ifCond .ne 7, 3) := by decide +kernel
theorem dX12_leavesIn_67 : decode cX12_leavesIn 67 = .ok (.iload_n 1, 1) := by decide +kernel
theorem dX12_leavesIn_68 : decode cX12_leavesIn 68 = .ok (.ifCond .ne 7, 3) := by decide +kernel
theorem dX12_leavesIn_71 : decode cX12_leavesIn 71 = .ok (.iconst 1, 1) := by decide +kernel
theorem dX12_leavesIn_72 : decode cX12_leavesIn 72 = .ok (.goto 4, 3) := by decide +kernel
theorem dX12_leavesIn_75 : decode cX12_leavesIn 75 = .ok (.iconst 0, 1) := by decide +kernel
theorem dX12_leavesIn_76 : decode cX12_leavesIn 76 = .ok (.iadd, 1) := by decide +kernel
theorem dX12_leavesIn_77 : decode cX12_leavesIn 77 = .ok (.istore_n 2, 1) := by decide +kernel
theorem dX12_leavesIn_78 : decode cX12_leavesIn 78 = .ok (.iinc 7 1, 3) := by decide +kernel
theorem dX12_leavesIn_81 : decode cX12_leavesIn 81 = .ok (.goto (-34), 3) := by decide +kernel
theorem dX12_leavesIn_84 : decode cX12_leavesIn 84 = .ok (.goto (-72), 3) := by decide +kernel
theorem dX12_leavesIn_87 : decode cX12_leavesIn 87 = .ok (.iload_n 2, 1) := by decide +kernel
theorem dX12_leavesIn_88 : decode cX12_leavesIn 88 = .ok (.ireturn, 1) := by decide +kernel
theorem dX12_usedShare_0 : decode cX12_usedShare 0 = .ok (.aload_n 0, 1) := by decide +kernel
theorem dX12_usedShare_1 : decode cX12_usedShare 1 = .ok (.invokevirtual 48, 3) := by decide +kernel
theorem dX12_usedShare_4 : decode cX12_usedShare 4 = .ok (.aload_n 0, 1) := by decide +kernel
theorem dX12_usedShare_5 : decode cX12_usedShare 5 = .ok (.aload_n 0, 1) := by decide +kernel
theorem dX12_usedShare_6 : decode cX12_usedShare 6 = .ok (.getfield 16, 3) := by decide +kernel
theorem dX12_usedShare_9 : decode cX12_usedShare 9 = .ok (.invokeinterface 382 1, 5) := by decide +kernel
theorem dX12_usedShare_14 : decode cX12_usedShare 14 = .ok (.iconst 1, 1) := by decide +kernel
theorem dX12_usedShare_15 : decode cX12_usedShare 15 = .ok (.invokevirtual 67, 3) := by decide +kernel
theorem dX12_usedShare_18 : decode cX12_usedShare 18 = .ok (.ifCond .eq 7, 3) := by decide +kernel
theorem dX12_usedShare_21 : decode cX12_usedShare 21 = .ok (.fconst 0, 1) := by decide +kernel
theorem dX12_usedShare_22 : decode cX12_usedShare 22 = .ok (.goto 16, 3) := by decide +kernel
theorem dX12_usedShare_25 : decode cX12_usedShare 25 = .ok (.aload_n 0, 1) := by decide +kernel
theorem dX12_usedShare_26 : decode cX12_usedShare 26 = .ok (.iconst 1, 1) := by decide +kernel
theorem dX12_usedShare_27 : decode cX12_usedShare 27 = .ok (.invokevirtual 385, 3) := by decide +kernel
theorem dX12_usedShare_30 : decode cX12_usedShare 30 = .ok (.i2f, 1) := by decide +kernel
theorem dX12_usedShare_31 : decode cX12_usedShare 31 = .ok (.aload_n 0, 1) := by decide +kernel
theorem dX12_usedShare_32 : decode cX12_usedShare 32 = .ok (.iconst 0, 1) := by decide +kernel
theorem dX12_usedShare_33 : decode cX12_usedShare 33 = .ok (.invokevirtual 385, 3) := by decide +kernel
theorem dX12_usedShare_36 : decode cX12_usedShare 36 = .ok (.i2f, 1) := by decide +kernel
theorem dX12_usedShare_37 : decode cX12_usedShare 37 = .ok (.fdiv, 1) := by decide +kernel
theorem dX12_usedShare_38 : decode cX12_usedShare 38 = .ok (.freturn, 1) := by decide +kernel
theorem dX12_meanFigure_0 : decode cX12_meanFigure 0 = .ok (.aload_n 0, 1) := by decide +kernel
theorem dX12_meanFigure_1 : decode cX12_meanFigure 1 = .ok (.invokevirtual 48, 3) := by decide +kernel
theorem dX12_meanFigure_4 : decode cX12_meanFigure 4 = .ok (.iconst 0, 1) := by decide +kernel
theorem dX12_meanFigure_5 : decode cX12_meanFigure 5 = .ok (.istore_n 1, 1) := by decide +kernel
theorem dX12_meanFigure_6 : decode cX12_meanFigure 6 = .ok (.aload_n 0, 1) := by decide +kernel
theorem dX12_meanFigure_7 : decode cX12_meanFigure 7 = .ok (.getfield 16, 3) := by decide +kernel
theorem dX12_meanFigure_10 : decode cX12_meanFigure 10 = .ok (.invokeinterface 288 1, 5) := by decide +kernel
theorem dX12_meanFigure_15 : decode cX12_meanFigure 15 = .ok (.astore_n 2, 1) := by decide +kernel
theorem dX12_meanFigure_16 : decode cX12_meanFigure 16 = .ok (.aload_n 2, 1) := by decide +kernel
theorem dX12_meanFigure_17 : decode cX12_meanFigure 17 = .ok (.invokeinterface 292 1, 5) := by decide +kernel
theorem dX12_meanFigure_22 : decode cX12_meanFigure 22 = .ok (.ifCond .eq 44, 3) := by decide +kernel
theorem dX12_meanFigure_25 : decode cX12_meanFigure 25 = .ok (.aload_n 2, 1) := by decide +kernel
theorem dX12_meanFigure_26 : decode cX12_meanFigure 26 = .ok (.invokeinterface 298 1, 5) := by decide +kernel
theorem dX12_meanFigure_31 : decode cX12_meanFigure 31 = .ok (.checkcast 98, 3) := by decide +kernel
theorem dX12_meanFigure_34 : decode cX12_meanFigure 34 = .ok (.astore_n 3, 1) := by decide +kernel
theorem dX12_meanFigure_35 : decode cX12_meanFigure 35 = .ok (.iconst 0, 1) := by decide +kernel
theorem dX12_meanFigure_36 : decode cX12_meanFigure 36 = .ok (.istore 4, 2) := by decide +kernel
theorem dX12_meanFigure_38 : decode cX12_meanFigure 38 = .ok (.iload 4, 2) := by decide +kernel
theorem dX12_meanFigure_40 : decode cX12_meanFigure 40 = .ok (.aload_n 3, 1) := by decide +kernel
theorem dX12_meanFigure_41 : decode cX12_meanFigure 41 = .ok (.getfield 103, 3) := by decide +kernel
theorem dX12_meanFigure_44 : decode cX12_meanFigure 44 = .ok (.arraylength, 1) := by decide +kernel
theorem dX12_meanFigure_45 : decode cX12_meanFigure 45 = .ok (.if_icmp .ge 18, 3) := by decide +kernel
theorem dX12_meanFigure_48 : decode cX12_meanFigure 48 = .ok (.iload_n 1, 1) := by decide +kernel
theorem dX12_meanFigure_49 : decode cX12_meanFigure 49 = .ok (.aload_n 3, 1) := by decide +kernel
theorem dX12_meanFigure_50 : decode cX12_meanFigure 50 = .ok (.iload 4, 2) := by decide +kernel
theorem dX12_meanFigure_52 : decode cX12_meanFigure 52 = .ok (.invokevirtual 120, 3) := by decide +kernel
theorem dX12_meanFigure_55 : decode cX12_meanFigure 55 = .ok (.iadd, 1) := by decide +kernel
theorem dX12_meanFigure_56 : decode cX12_meanFigure 56 = .ok (.istore_n 1, 1) := by decide +kernel
theorem dX12_meanFigure_57 : decode cX12_meanFigure 57 = .ok (.iinc 4 1, 3) := by decide +kernel
theorem dX12_meanFigure_60 : decode cX12_meanFigure 60 = .ok (.goto (-22), 3) := by decide +kernel
theorem dX12_meanFigure_63 : decode cX12_meanFigure 63 = .ok (.goto (-47), 3) := by decide +kernel
theorem dX12_meanFigure_66 : decode cX12_meanFigure 66 = .ok (.aload_n 0, 1) := by decide +kernel
theorem dX12_meanFigure_67 : decode cX12_meanFigure 67 = .ok (.aload_n 0, 1) := by decide +kernel
theorem dX12_meanFigure_68 : decode cX12_meanFigure 68 = .ok (.getfield 16, 3) := by decide +kernel
theorem dX12_meanFigure_71 : decode cX12_meanFigure 71 = .ok (.invokeinterface 382 1, 5) := by decide +kernel
theorem dX12_meanFigure_76 : decode cX12_meanFigure 76 = .ok (.iconst 1, 1) := by decide +kernel
theorem dX12_meanFigure_77 : decode cX12_meanFigure 77 = .ok (.invokevirtual 67, 3) := by decide +kernel
theorem dX12_meanFigure_80 : decode cX12_meanFigure 80 = .ok (.ifCond .eq 7, 3) := by decide +kernel
theorem dX12_meanFigure_83 : decode cX12_meanFigure 83 = .ok (.dconst 0, 1) := by decide +kernel
theorem dX12_meanFigure_84 : decode cX12_meanFigure 84 = .ok (.goto 12, 3) := by decide +kernel
theorem dX12_meanFigure_87 : decode cX12_meanFigure 87 = .ok (.iload_n 1, 1) := by decide +kernel
theorem dX12_meanFigure_88 : decode cX12_meanFigure 88 = .ok (.i2d, 1) := by decide +kernel
theorem dX12_meanFigure_89 : decode cX12_meanFigure 89 = .ok (.aload_n 0, 1) := by decide +kernel
theorem dX12_meanFigure_90 : decode cX12_meanFigure 90 = .ok (.iconst 0, 1) := by decide +kernel
theorem dX12_meanFigure_91 : decode cX12_meanFigure 91 = .ok (.invokevirtual 385, 3) := by decide +kernel
theorem dX12_meanFigure_94 : decode cX12_meanFigure 94 = .ok (.i2d, 1) := by decide +kernel
theorem dX12_meanFigure_95 : decode cX12_meanFigure 95 = .ok (.ddiv, 1) := by decide +kernel
theorem dX12_meanFigure_96 : decode cX12_meanFigure 96 = .ok (.dreturn, 1) := by decide +kernel
theorem dX12_checksum_0 : decode cX12_checksum 0 = .ok (.aload_n 0, 1) := by decide +kernel
theorem dX12_checksum_1 : decode cX12_checksum 1 = .ok (.invokevirtual 48, 3) := by decide +kernel
theorem dX12_checksum_4 : decode cX12_checksum 4 = .ok (.ldc2_w 302, 3) := by decide +kernel
theorem dX12_checksum_7 : decode cX12_checksum 7 = .ok (.lstore_n 1, 1) := by decide +kernel
theorem dX12_checksum_8 : decode cX12_checksum 8 = .ok (.aload_n 0, 1) := by decide +kernel
theorem dX12_checksum_9 : decode cX12_checksum 9 = .ok (.getfield 16, 3) := by decide +kernel
theorem dX12_checksum_12 : decode cX12_checksum 12 = .ok (.invokeinterface 288 1, 5) := by decide +kernel
theorem dX12_checksum_17 : decode cX12_checksum 17 = .ok (.astore_n 3, 1) := by decide +kernel
theorem dX12_checksum_18 : decode cX12_checksum 18 = .ok (.aload_n 3, 1) := by decide +kernel
theorem dX12_checksum_19 : decode cX12_checksum 19 = .ok (.invokeinterface 292 1, 5) := by decide +kernel
theorem dX12_checksum_24 : decode cX12_checksum 24 = .ok (.ifCond .eq 80, 3) := by decide +kernel
theorem dX12_checksum_27 : decode cX12_checksum 27 = .ok (.aload_n 3, 1) := by decide +kernel
theorem dX12_checksum_28 : decode cX12_checksum 28 = .ok (.invokeinterface 298 1, 5) := by decide +kernel
theorem dX12_checksum_33 : decode cX12_checksum 33 = .ok (.checkcast 98, 3) := by decide +kernel
theorem dX12_checksum_36 : decode cX12_checksum 36 = .ok (.astore 4, 2) := by decide +kernel
theorem dX12_checksum_38 : decode cX12_checksum 38 = .ok (.iconst 0, 1) := by decide +kernel
theorem dX12_checksum_39 : decode cX12_checksum 39 = .ok (.istore 5, 2) := by decide +kernel
theorem dX12_checksum_41 : decode cX12_checksum 41 = .ok (.aload 4, 2) := by decide +kernel
theorem dX12_checksum_43 : decode cX12_checksum 43 = .ok (.getfield 103, 3) := by decide +kernel
theorem dX12_checksum_46 : decode cX12_checksum 46 = .ok (.astore 6, 2) := by decide +kernel
theorem dX12_checksum_48 : decode cX12_checksum 48 = .ok (.aload 6, 2) := by decide +kernel
theorem dX12_checksum_50 : decode cX12_checksum 50 = .ok (.arraylength, 1) := by decide +kernel
theorem dX12_checksum_51 : decode cX12_checksum 51 = .ok (.istore 7, 2) := by decide +kernel
theorem dX12_checksum_53 : decode cX12_checksum 53 = .ok (.iconst 0, 1) := by decide +kernel
theorem dX12_checksum_54 : decode cX12_checksum 54 = .ok (.istore 8, 2) := by decide +kernel
theorem dX12_checksum_56 : decode cX12_checksum 56 = .ok (.iload 8, 2) := by decide +kernel
theorem dX12_checksum_58 : decode cX12_checksum 58 = .ok (.iload 7, 2) := by decide +kernel
theorem dX12_checksum_60 : decode cX12_checksum 60 = .ok (.if_icmp .ge 31, 3) := by decide +kernel
theorem dX12_checksum_63 : decode cX12_checksum 63 = .ok (.aload 6, 2) := by decide +kernel
theorem dX12_checksum_65 : decode cX12_checksum 65 = .ok (.iload 8, 2) := by decide +kernel
theorem dX12_checksum_67 : decode cX12_checksum 67 = .ok (.baload, 1) := by decide +kernel
theorem dX12_checksum_68 : decode cX12_checksum 68 = .ok (.istore 9, 2) := by decide +kernel
theorem dX12_checksum_70 : decode cX12_checksum 70 = .ok (.iload 5, 2) := by decide +kernel
theorem dX12_checksum_72 : decode cX12_checksum 72 = .ok (.iload 9, 2) := by decide +kernel
theorem dX12_checksum_74 : decode cX12_checksum 74 = .ok (.ifCond .eq 7, 3) := by decide +kernel
theorem dX12_checksum_77 : decode cX12_checksum 77 = .ok (.iconst 1, 1) := by decide +kernel
theorem dX12_checksum_78 : decode cX12_checksum 78 = .ok (.goto 4, 3) := by decide +kernel
theorem dX12_checksum_81 : decode cX12_checksum 81 = .ok (.iconst 0, 1) := by decide +kernel
theorem dX12_checksum_82 : decode cX12_checksum 82 = .ok (.iadd, 1) := by decide +kernel
theorem dX12_checksum_83 : decode cX12_checksum 83 = .ok (.istore 5, 2) := by decide +kernel
theorem dX12_checksum_85 : decode cX12_checksum 85 = .ok (.iinc 8 1, 3) := by decide +kernel
theorem dX12_checksum_88 : decode cX12_checksum 88 = .ok (.goto (-32), 3) := by decide +kernel
theorem dX12_checksum_91 : decode cX12_checksum 91 = .ok (.ldc2_w 389, 3) := by decide +kernel
theorem dX12_checksum_94 : decode cX12_checksum 94 = .ok (.lload_n 1, 1) := by decide +kernel
theorem dX12_checksum_95 : decode cX12_checksum 95 = .ok (.lmul, 1) := by decide +kernel
theorem dX12_checksum_96 : decode cX12_checksum 96 = .ok (.iload 5, 2) := by decide +kernel
theorem dX12_checksum_98 : decode cX12_checksum 98 = .ok (.i2l, 1) := by decide +kernel
theorem dX12_checksum_99 : decode cX12_checksum 99 = .ok (.ladd, 1) := by decide +kernel
theorem dX12_checksum_100 : decode cX12_checksum 100 = .ok (.lstore_n 1, 1) := by decide +kernel
theorem dX12_checksum_101 : decode cX12_checksum 101 = .ok (.goto (-83), 3) := by decide +kernel
theorem dX12_checksum_104 : decode cX12_checksum 104 = .ok (.aload_n 0, 1) := by decide +kernel
theorem dX12_checksum_105 : decode cX12_checksum 105 = .ok (.getfield 19, 3) := by decide +kernel
theorem dX12_checksum_108 : decode cX12_checksum 108 = .ok (.invokeinterface 288 1, 5) := by decide +kernel
theorem dX12_checksum_113 : decode cX12_checksum 113 = .ok (.astore_n 3, 1) := by decide +kernel
theorem dX12_checksum_114 : decode cX12_checksum 114 = .ok (.aload_n 3, 1) := by decide +kernel
theorem dX12_checksum_115 : decode cX12_checksum 115 = .ok (.invokeinterface 292 1, 5) := by decide +kernel
theorem dX12_checksum_120 : decode cX12_checksum 120 = .ok (.ifCond .eq 30, 3) := by decide +kernel
theorem dX12_checksum_123 : decode cX12_checksum 123 = .ok (.aload_n 3, 1) := by decide +kernel
theorem dX12_checksum_124 : decode cX12_checksum 124 = .ok (.invokeinterface 298 1, 5) := by decide +kernel
theorem dX12_checksum_129 : decode cX12_checksum 129 = .ok (.checkcast 129, 3) := by decide +kernel
theorem dX12_checksum_132 : decode cX12_checksum 132 = .ok (.astore 4, 2) := by decide +kernel
theorem dX12_checksum_134 : decode cX12_checksum 134 = .ok (.ldc2_w 389, 3) := by decide +kernel
theorem dX12_checksum_137 : decode cX12_checksum 137 = .ok (.lload_n 1, 1) := by decide +kernel
theorem dX12_checksum_138 : decode cX12_checksum 138 = .ok (.lmul, 1) := by decide +kernel
theorem dX12_checksum_139 : decode cX12_checksum 139 = .ok (.aload 4, 2) := by decide +kernel
theorem dX12_checksum_141 : decode cX12_checksum 141 = .ok (.invokestatic 378, 3) := by decide +kernel
theorem dX12_checksum_144 : decode cX12_checksum 144 = .ok (.i2l, 1) := by decide +kernel
theorem dX12_checksum_145 : decode cX12_checksum 145 = .ok (.ladd, 1) := by decide +kernel
theorem dX12_checksum_146 : decode cX12_checksum 146 = .ok (.lstore_n 1, 1) := by decide +kernel
theorem dX12_checksum_147 : decode cX12_checksum 147 = .ok (.goto (-33), 3) := by decide +kernel
theorem dX12_checksum_150 : decode cX12_checksum 150 = .ok (.aload_n 0, 1) := by decide +kernel
theorem dX12_checksum_151 : decode cX12_checksum 151 = .ok (.getfield 32, 3) := by decide +kernel
theorem dX12_checksum_154 : decode cX12_checksum 154 = .ok (.invokeinterface 288 1, 5) := by decide +kernel
theorem dX12_checksum_159 : decode cX12_checksum 159 = .ok (.astore_n 3, 1) := by decide +kernel
theorem dX12_checksum_160 : decode cX12_checksum 160 = .ok (.aload_n 3, 1) := by decide +kernel
theorem dX12_checksum_161 : decode cX12_checksum 161 = .ok (.invokeinterface 292 1, 5) := by decide +kernel
theorem dX12_checksum_166 : decode cX12_checksum 166 = .ok (.ifCond .eq 33, 3) := by decide +kernel
theorem dX12_checksum_169 : decode cX12_checksum 169 = .ok (.aload_n 3, 1) := by decide +kernel
theorem dX12_checksum_170 : decode cX12_checksum 170 = .ok (.invokeinterface 298 1, 5) := by decide +kernel
theorem dX12_checksum_175 : decode cX12_checksum 175 = .ok (.checkcast 304, 3) := by decide +kernel
theorem dX12_checksum_178 : decode cX12_checksum 178 = .ok (.astore 4, 2) := by decide +kernel
theorem dX12_checksum_180 : decode cX12_checksum 180 = .ok (.ldc2_w 389, 3) := by decide +kernel
theorem dX12_checksum_183 : decode cX12_checksum 183 = .ok (.lload_n 1, 1) := by decide +kernel
theorem dX12_checksum_184 : decode cX12_checksum 184 = .ok (.lmul, 1) := by decide +kernel
theorem dX12_checksum_185 : decode cX12_checksum 185 = .ok (.aload 4, 2) := by decide +kernel
theorem dX12_checksum_187 : decode cX12_checksum 187 = .ok (.invokevirtual 320, 3) := by decide +kernel
theorem dX12_checksum_190 : decode cX12_checksum 190 = .ok (.invokestatic 324, 3) := by decide +kernel
theorem dX12_checksum_193 : decode cX12_checksum 193 = .ok (.i2l, 1) := by decide +kernel
theorem dX12_checksum_194 : decode cX12_checksum 194 = .ok (.ladd, 1) := by decide +kernel
theorem dX12_checksum_195 : decode cX12_checksum 195 = .ok (.lstore_n 1, 1) := by decide +kernel
theorem dX12_checksum_196 : decode cX12_checksum 196 = .ok (.goto (-36), 3) := by decide +kernel
theorem dX12_checksum_199 : decode cX12_checksum 199 = .ok (.ldc2_w 389, 3) := by decide +kernel
theorem dX12_checksum_202 : decode cX12_checksum 202 = .ok (.lload_n 1, 1) := by decide +kernel
theorem dX12_checksum_203 : decode cX12_checksum 203 = .ok (.lmul, 1) := by decide +kernel
theorem dX12_checksum_204 : decode cX12_checksum 204 = .ok (.aload_n 0, 1) := by decide +kernel
theorem dX12_checksum_205 : decode cX12_checksum 205 = .ok (.getfield 168, 3) := by decide +kernel
theorem dX12_checksum_208 : decode cX12_checksum 208 = .ok (.i2l, 1) := by decide +kernel
theorem dX12_checksum_209 : decode cX12_checksum 209 = .ok (.ladd, 1) := by decide +kernel
theorem dX12_checksum_210 : decode cX12_checksum 210 = .ok (.lreturn, 1) := by decide +kernel
theorem dX12_isTrue_0 : decode cX12_isTrue 0 = .ok (.aload_n 0, 1) := by decide +kernel
theorem dX12_isTrue_1 : decode cX12_isTrue 1 = .ok (.invokevirtual 48, 3) := by decide +kernel
theorem dX12_isTrue_4 : decode cX12_isTrue 4 = .ok (.iconst 1, 1) := by decide +kernel
theorem dX12_isTrue_5 : decode cX12_isTrue 5 = .ok (.ireturn, 1) := by decide +kernel
theorem dJx00060_init_a7421_0 : decode cJx00060_init_a7421 0 = .ok (.aload_n 0, 1) := by decide +kernel
theorem dJx00060_init_a7421_1 : decode cJx00060_init_a7421 1 = .ok (.aload_n 1, 1) := by decide +kernel
theorem dJx00060_init_a7421_2 : decode cJx00060_init_a7421 2 = .ok (.invokespecial 7, 3) := by decide +kernel
theorem dJx00060_init_a7421_5 : decode cJx00060_init_a7421 5 = .ok (.return_, 1) := by decide +kernel
theorem dJ11_isValidCodePoint_9a6ad_0 : decode cJ11_isValidCodePoint_9a6ad 0 = .ok (.iload_n 0, 1) := by decide +kernel
theorem dJ11_isValidCodePoint_9a6ad_1 : decode cJ11_isValidCodePoint_9a6ad 1 = .ok (.bipush 16, 2) := by decide +kernel
theorem dJ11_isValidCodePoint_9a6ad_3 : decode cJ11_isValidCodePoint_9a6ad 3 = .ok (.iushr, 1) := by decide +kernel
theorem dJ11_isValidCodePoint_9a6ad_4 : decode cJ11_isValidCodePoint_9a6ad 4 = .ok (.istore_n 1, 1) := by decide +kernel
theorem dJ11_isValidCodePoint_9a6ad_5 : decode cJ11_isValidCodePoint_9a6ad 5 = .ok (.iload_n 1, 1) := by decide +kernel
theorem dJ11_isValidCodePoint_9a6ad_6 : decode cJ11_isValidCodePoint_9a6ad 6 = .ok (.bipush 17, 2) := by decide +kernel
theorem dJ11_isValidCodePoint_9a6ad_8 : decode cJ11_isValidCodePoint_9a6ad 8 = .ok (.if_icmp .ge 7, 3) := by decide +kernel
theorem dJ11_isValidCodePoint_9a6ad_11 : decode cJ11_isValidCodePoint_9a6ad 11 = .ok (.iconst 1, 1) := by decide +kernel
theorem dJ11_isValidCodePoint_9a6ad_12 : decode cJ11_isValidCodePoint_9a6ad 12 = .ok (.goto 4, 3) := by decide +kernel
theorem dJ11_isValidCodePoint_9a6ad_15 : decode cJ11_isValidCodePoint_9a6ad 15 = .ok (.iconst 0, 1) := by decide +kernel
theorem dJ11_isValidCodePoint_9a6ad_16 : decode cJ11_isValidCodePoint_9a6ad 16 = .ok (.ireturn, 1) := by decide +kernel
theorem dJ11_highSurrogate_5068e_0 : decode cJ11_highSurrogate_5068e 0 = .ok (.iload_n 0, 1) := by decide +kernel
theorem dJ11_highSurrogate_5068e_1 : decode cJ11_highSurrogate_5068e 1 = .ok (.bipush 10, 2) := by decide +kernel
theorem dJ11_highSurrogate_5068e_3 : decode cJ11_highSurrogate_5068e 3 = .ok (.iushr, 1) := by decide +kernel
theorem dJ11_highSurrogate_5068e_4 : decode cJ11_highSurrogate_5068e 4 = .ok (.ldc 110, 2) := by decide +kernel
theorem dJ11_highSurrogate_5068e_6 : decode cJ11_highSurrogate_5068e 6 = .ok (.iadd, 1) := by decide +kernel
theorem dJ11_highSurrogate_5068e_7 : decode cJ11_highSurrogate_5068e 7 = .ok (.i2c, 1) := by decide +kernel
theorem dJ11_highSurrogate_5068e_8 : decode cJ11_highSurrogate_5068e 8 = .ok (.ireturn, 1) := by decide +kernel
theorem dJ11_lowSurrogate_5068e_0 : decode cJ11_lowSurrogate_5068e 0 = .ok (.iload_n 0, 1) := by decide +kernel
theorem dJ11_lowSurrogate_5068e_1 : decode cJ11_lowSurrogate_5068e 1 = .ok (.sipush 1023, 3) := by decide +kernel
theorem dJ11_lowSurrogate_5068e_4 : decode cJ11_lowSurrogate_5068e 4 = .ok (.iand, 1) := by decide +kernel
theorem dJ11_lowSurrogate_5068e_5 : decode cJ11_lowSurrogate_5068e 5 = .ok (.ldc 76, 2) := by decide +kernel
theorem dJ11_lowSurrogate_5068e_7 : decode cJ11_lowSurrogate_5068e 7 = .ok (.iadd, 1) := by decide +kernel
theorem dJ11_lowSurrogate_5068e_8 : decode cJ11_lowSurrogate_5068e 8 = .ok (.i2c, 1) := by decide +kernel
theorem dJ11_lowSurrogate_5068e_9 : decode cJ11_lowSurrogate_5068e 9 = .ok (.ireturn, 1) := by decide +kernel
theorem dJ6_valueOf_2dffe_0 : decode cJ6_valueOf_2dffe 0 = .ok (.iload_n 0, 1) := by decide +kernel
theorem dJ6_valueOf_2dffe_1 : decode cJ6_valueOf_2dffe 1 = .ok (.bipush (-128), 2) := by decide +kernel
theorem dJ6_valueOf_2dffe_3 : decode cJ6_valueOf_2dffe 3 = .ok (.if_icmp .lt 20, 3) := by decide +kernel
theorem dJ6_valueOf_2dffe_6 : decode cJ6_valueOf_2dffe 6 = .ok (.iload_n 0, 1) := by decide +kernel
theorem dJ6_valueOf_2dffe_7 : decode cJ6_valueOf_2dffe 7 = .ok (.getstatic 191, 3) := by decide +kernel
theorem dJ6_valueOf_2dffe_10 : decode cJ6_valueOf_2dffe 10 = .ok (.if_icmp .gt 13, 3) := by decide +kernel
theorem dJ6_valueOf_2dffe_13 : decode cJ6_valueOf_2dffe 13 = .ok (.getstatic 195, 3) := by decide +kernel
theorem dJ6_valueOf_2dffe_16 : decode cJ6_valueOf_2dffe 16 = .ok (.iload_n 0, 1) := by decide +kernel
theorem dJ6_valueOf_2dffe_17 : decode cJ6_valueOf_2dffe 17 = .ok (.sipush 128, 3) := by decide +kernel
theorem dJ6_valueOf_2dffe_20 : decode cJ6_valueOf_2dffe 20 = .ok (.iadd, 1) := by decide +kernel
theorem dJ6_valueOf_2dffe_21 : decode cJ6_valueOf_2dffe 21 = .ok (.aaload, 1) := by decide +kernel
theorem dJ6_valueOf_2dffe_22 : decode cJ6_valueOf_2dffe 22 = .ok (.areturn, 1) := by decide +kernel
theorem dJ6_valueOf_2dffe_23 : decode cJ6_valueOf_2dffe 23 = .ok (.new 1, 3) := by decide +kernel
theorem dJ6_valueOf_2dffe_26 : decode cJ6_valueOf_2dffe 26 = .ok (.dup, 1) := by decide +kernel
theorem dJ6_valueOf_2dffe_27 : decode cJ6_valueOf_2dffe 27 = .ok (.iload_n 0, 1) := by decide +kernel
theorem dJ6_valueOf_2dffe_28 : decode cJ6_valueOf_2dffe 28 = .ok (.invokespecial 199, 3) := by decide +kernel
theorem dJ6_valueOf_2dffe_31 : decode cJ6_valueOf_2dffe 31 = .ok (.areturn, 1) := by decide +kernel
theorem dJ6_init_d00df_0 : decode cJ6_init_d00df 0 = .ok (.aload_n 0, 1) := by decide +kernel
theorem dJ6_init_d00df_1 : decode cJ6_init_d00df 1 = .ok (.invokespecial 202, 3) := by decide +kernel
theorem dJ6_init_d00df_4 : decode cJ6_init_d00df 4 = .ok (.aload_n 0, 1) := by decide +kernel
theorem dJ6_init_d00df_5 : decode cJ6_init_d00df 5 = .ok (.iload_n 1, 1) := by decide +kernel
theorem dJ6_init_d00df_6 : decode cJ6_init_d00df 6 = .ok (.putfield 205, 3) := by decide +kernel
theorem dJ6_init_d00df_9 : decode cJ6_init_d00df 9 = .ok (.return_, 1) := by decide +kernel
theorem dJ6_intValue_8abf5_0 : decode cJ6_intValue_8abf5 0 = .ok (.aload_n 0, 1) := by decide +kernel
theorem dJ6_intValue_8abf5_1 : decode cJ6_intValue_8abf5 1 = .ok (.getfield 205, 3) := by decide +kernel
theorem dJ6_intValue_8abf5_4 : decode cJ6_intValue_8abf5 4 = .ok (.ireturn, 1) := by decide +kernel
theorem dJ9_abs_0f7a4_0 : decode cJ9_abs_0f7a4 0 = .ok (.iload_n 0, 1) := by decide +kernel
theorem dJ9_abs_0f7a4_1 : decode cJ9_abs_0f7a4 1 = .ok (.ifCond .ge 8, 3) := by decide +kernel
theorem dJ9_abs_0f7a4_4 : decode cJ9_abs_0f7a4 4 = .ok (.iload_n 0, 1) := by decide +kernel
theorem dJ9_abs_0f7a4_5 : decode cJ9_abs_0f7a4 5 = .ok (.ineg, 1) := by decide +kernel
theorem dJ9_abs_0f7a4_6 : decode cJ9_abs_0f7a4 6 = .ok (.goto 4, 3) := by decide +kernel
theorem dJ9_abs_0f7a4_9 : decode cJ9_abs_0f7a4 9 = .ok (.iload_n 0, 1) := by decide +kernel
theorem dJ9_abs_0f7a4_10 : decode cJ9_abs_0f7a4 10 = .ok (.ireturn, 1) := by decide +kernel
theorem dJ9_max_7cf53_0 : decode cJ9_max_7cf53 0 = .ok (.iload_n 0, 1) := by decide +kernel
theorem dJ9_max_7cf53_1 : decode cJ9_max_7cf53 1 = .ok (.iload_n 1, 1) := by decide +kernel
theorem dJ9_max_7cf53_2 : decode cJ9_max_7cf53 2 = .ok (.if_icmp .lt 7, 3) := by decide +kernel
theorem dJ9_max_7cf53_5 : decode cJ9_max_7cf53 5 = .ok (.iload_n 0, 1) := by decide +kernel
theorem dJ9_max_7cf53_6 : decode cJ9_max_7cf53 6 = .ok (.goto 4, 3) := by decide +kernel
theorem dJ9_max_7cf53_9 : decode cJ9_max_7cf53 9 = .ok (.iload_n 1, 1) := by decide +kernel
theorem dJ9_max_7cf53_10 : decode cJ9_max_7cf53 10 = .ok (.ireturn, 1) := by decide +kernel
theorem dJ9_min_7cf53_0 : decode cJ9_min_7cf53 0 = .ok (.iload_n 0, 1) := by decide +kernel
theorem dJ9_min_7cf53_1 : decode cJ9_min_7cf53 1 = .ok (.iload_n 1, 1) := by decide +kernel
theorem dJ9_min_7cf53_2 : decode cJ9_min_7cf53 2 = .ok (.if_icmp .gt 7, 3) := by decide +kernel
theorem dJ9_min_7cf53_5 : decode cJ9_min_7cf53 5 = .ok (.iload_n 0, 1) := by decide +kernel
theorem dJ9_min_7cf53_6 : decode cJ9_min_7cf53 6 = .ok (.goto 4, 3) := by decide +kernel
theorem dJ9_min_7cf53_9 : decode cJ9_min_7cf53 9 = .ok (.iload_n 1, 1) := by decide +kernel
theorem dJ9_min_7cf53_10 : decode cJ9_min_7cf53 10 = .ok (.ireturn, 1) := by decide +kernel
theorem dJxd2413_init_da8c8_0 : decode cJxd2413_init_da8c8 0 = .ok (.aload_n 0, 1) := by decide +kernel
theorem dJxd2413_init_da8c8_1 : decode cJxd2413_init_da8c8 1 = .ok (.invokespecial 1, 3) := by decide +kernel
theorem dJxd2413_init_da8c8_4 : decode cJxd2413_init_da8c8 4 = .ok (.return_, 1) := by decide +kernel
theorem dJ0_length_8abf5_0 : decode cJ0_length_8abf5 0 = .ok (.aload_n 0, 1) := by decide +kernel
theorem dJ0_length_8abf5_1 : decode cJ0_length_8abf5 1 = .ok (.getfield 9, 3) := by decide +kernel
theorem dJ0_length_8abf5_4 : decode cJ0_length_8abf5 4 = .ok (.arraylength, 1) := by decide +kernel
theorem dJ0_length_8abf5_5 : decode cJ0_length_8abf5 5 = .ok (.aload_n 0, 1) := by decide +kernel
theorem dJ0_length_8abf5_6 : decode cJ0_length_8abf5 6 = .ok (.invokevirtual 335, 3) := by decide +kernel
theorem dJ0_length_8abf5_9 : decode cJ0_length_8abf5 9 = .ok (.ishr, 1) := by decide +kernel
theorem dJ0_length_8abf5_10 : decode cJ0_length_8abf5 10 = .ok (.ireturn, 1) := by decide +kernel
theorem dJ0_indexOf_0f7a4_0 : decode cJ0_indexOf_0f7a4 0 = .ok (.aload_n 0, 1) := by decide +kernel
theorem dJ0_indexOf_0f7a4_1 : decode cJ0_indexOf_0f7a4 1 = .ok (.iload_n 1, 1) := by decide +kernel
theorem dJ0_indexOf_0f7a4_2 : decode cJ0_indexOf_0f7a4 2 = .ok (.iconst 0, 1) := by decide +kernel
theorem dJ0_indexOf_0f7a4_3 : decode cJ0_indexOf_0f7a4 3 = .ok (.invokevirtual 633, 3) := by decide +kernel
theorem dJ0_indexOf_0f7a4_6 : decode cJ0_indexOf_0f7a4 6 = .ok (.ireturn, 1) := by decide +kernel
theorem dJ0_indexOf_7cf53_0 : decode cJ0_indexOf_7cf53 0 = .ok (.aload_n 0, 1) := by decide +kernel
theorem dJ0_indexOf_7cf53_1 : decode cJ0_indexOf_7cf53 1 = .ok (.invokevirtual 492, 3) := by decide +kernel
theorem dJ0_indexOf_7cf53_4 : decode cJ0_indexOf_7cf53 4 = .ok (.ifCond .eq 19, 3) := by decide +kernel
theorem dJ0_indexOf_7cf53_7 : decode cJ0_indexOf_7cf53 7 = .ok (.aload_n 0, 1) := by decide +kernel
theorem dJ0_indexOf_7cf53_8 : decode cJ0_indexOf_7cf53 8 = .ok (.getfield 9, 3) := by decide +kernel
theorem dJ0_indexOf_7cf53_11 : decode cJ0_indexOf_7cf53 11 = .ok (.iload_n 1, 1) := by decide +kernel
theorem dJ0_indexOf_7cf53_12 : decode cJ0_indexOf_7cf53 12 = .ok (.iload_n 2, 1) := by decide +kernel
theorem dJ0_indexOf_7cf53_13 : decode cJ0_indexOf_7cf53 13 = .ok (.aload_n 0, 1) := by decide +kernel
theorem dJ0_indexOf_7cf53_14 : decode cJ0_indexOf_7cf53 14 = .ok (.invokevirtual 505, 3) := by decide +kernel
theorem dJ0_indexOf_7cf53_17 : decode cJ0_indexOf_7cf53 17 = .ok (.invokestatic 637, 3) := by decide +kernel
theorem dJ0_indexOf_7cf53_20 : decode cJ0_indexOf_7cf53 20 = .ok (.goto 16, 3) := by decide +kernel
theorem dJ0_indexOf_7cf53_23 : decode cJ0_indexOf_7cf53 23 = .ok (.aload_n 0, 1) := by decide +kernel
theorem dJ0_indexOf_7cf53_24 : decode cJ0_indexOf_7cf53 24 = .ok (.getfield 9, 3) := by decide +kernel
theorem dJ0_indexOf_7cf53_27 : decode cJ0_indexOf_7cf53 27 = .ok (.iload_n 1, 1) := by decide +kernel
theorem dJ0_indexOf_7cf53_28 : decode cJ0_indexOf_7cf53 28 = .ok (.iload_n 2, 1) := by decide +kernel
theorem dJ0_indexOf_7cf53_29 : decode cJ0_indexOf_7cf53 29 = .ok (.aload_n 0, 1) := by decide +kernel
theorem dJ0_indexOf_7cf53_30 : decode cJ0_indexOf_7cf53 30 = .ok (.invokevirtual 505, 3) := by decide +kernel
theorem dJ0_indexOf_7cf53_33 : decode cJ0_indexOf_7cf53 33 = .ok (.invokestatic 640, 3) := by decide +kernel
theorem dJ0_indexOf_7cf53_36 : decode cJ0_indexOf_7cf53 36 = .ok (.ireturn, 1) := by decide +kernel
theorem dJ0_coder_7d493_0 : decode cJ0_coder_7d493 0 = .ok (.getstatic 38, 3) := by decide +kernel
theorem dJ0_coder_7d493_3 : decode cJ0_coder_7d493 3 = .ok (.ifCond .eq 10, 3) := by decide +kernel
theorem dJ0_coder_7d493_6 : decode cJ0_coder_7d493 6 = .ok (.aload_n 0, 1) := by decide +kernel
theorem dJ0_coder_7d493_7 : decode cJ0_coder_7d493 7 = .ok (.getfield 15, 3) := by decide +kernel
theorem dJ0_coder_7d493_10 : decode cJ0_coder_7d493 10 = .ok (.goto 4, 3) := by decide +kernel
theorem dJ0_coder_7d493_13 : decode cJ0_coder_7d493 13 = .ok (.iconst 1, 1) := by decide +kernel
theorem dJ0_coder_7d493_14 : decode cJ0_coder_7d493 14 = .ok (.ireturn, 1) := by decide +kernel
theorem dJ0_isLatin1_aae02_0 : decode cJ0_isLatin1_aae02 0 = .ok (.getstatic 38, 3) := by decide +kernel
theorem dJ0_isLatin1_aae02_3 : decode cJ0_isLatin1_aae02 3 = .ok (.ifCond .eq 14, 3) := by decide +kernel
theorem dJ0_isLatin1_aae02_6 : decode cJ0_isLatin1_aae02 6 = .ok (.aload_n 0, 1) := by decide +kernel
theorem dJ0_isLatin1_aae02_7 : decode cJ0_isLatin1_aae02 7 = .ok (.getfield 15, 3) := by decide +kernel
theorem dJ0_isLatin1_aae02_10 : decode cJ0_isLatin1_aae02 10 = .ok (.ifCond .ne 7, 3) := by decide +kernel
theorem dJ0_isLatin1_aae02_13 : decode cJ0_isLatin1_aae02 13 = .ok (.iconst 1, 1) := by decide +kernel
theorem dJ0_isLatin1_aae02_14 : decode cJ0_isLatin1_aae02 14 = .ok (.goto 4, 3) := by decide +kernel
theorem dJ0_isLatin1_aae02_17 : decode cJ0_isLatin1_aae02 17 = .ok (.iconst 0, 1) := by decide +kernel
theorem dJ0_isLatin1_aae02_18 : decode cJ0_isLatin1_aae02 18 = .ok (.ireturn, 1) := by decide +kernel
theorem dJ0_checkBoundsBeginEnd_23922_0 : decode cJ0_checkBoundsBeginEnd_23922 0 = .ok (.iload_n 0, 1) := by decide +kernel
theorem dJ0_checkBoundsBeginEnd_23922_1 : decode cJ0_checkBoundsBeginEnd_23922 1 = .ok (.iload_n 1, 1) := by decide +kernel
theorem dJ0_checkBoundsBeginEnd_23922_2 : decode cJ0_checkBoundsBeginEnd_23922 2 = .ok (.iload_n 2, 1) := by decide +kernel
theorem dJ0_checkBoundsBeginEnd_23922_3 : decode cJ0_checkBoundsBeginEnd_23922 3 = .ok (.getstatic 1053, 3) := by decide +kernel
theorem dJ0_checkBoundsBeginEnd_23922_6 : decode cJ0_checkBoundsBeginEnd_23922 6 = .ok (.invokestatic 1062, 3) := by decide +kernel
theorem dJ0_checkBoundsBeginEnd_23922_9 : decode cJ0_checkBoundsBeginEnd_23922 9 = .ok (.pop, 1) := by decide +kernel
theorem dJ0_checkBoundsBeginEnd_23922_10 : decode cJ0_checkBoundsBeginEnd_23922 10 = .ok (.return_, 1) := by decide +kernel
theorem dJ1_canEncode_9a6ad_0 : decode cJ1_canEncode_9a6ad 0 = .ok (.iload_n 0, 1) := by decide +kernel
theorem dJ1_canEncode_9a6ad_1 : decode cJ1_canEncode_9a6ad 1 = .ok (.ifCond .lt 14, 3) := by decide +kernel
theorem dJ1_canEncode_9a6ad_4 : decode cJ1_canEncode_9a6ad 4 = .ok (.iload_n 0, 1) := by decide +kernel
theorem dJ1_canEncode_9a6ad_5 : decode cJ1_canEncode_9a6ad 5 = .ok (.sipush 255, 3) := by decide +kernel
theorem dJ1_canEncode_9a6ad_8 : decode cJ1_canEncode_9a6ad 8 = .ok (.if_icmp .gt 7, 3) := by decide +kernel
theorem dJ1_canEncode_9a6ad_11 : decode cJ1_canEncode_9a6ad 11 = .ok (.iconst 1, 1) := by decide +kernel
theorem dJ1_canEncode_9a6ad_12 : decode cJ1_canEncode_9a6ad 12 = .ok (.goto 4, 3) := by decide +kernel
theorem dJ1_canEncode_9a6ad_15 : decode cJ1_canEncode_9a6ad 15 = .ok (.iconst 0, 1) := by decide +kernel
theorem dJ1_canEncode_9a6ad_16 : decode cJ1_canEncode_9a6ad 16 = .ok (.ireturn, 1) := by decide +kernel
theorem dJ1_indexOf_4cfef_0 : decode cJ1_indexOf_4cfef 0 = .ok (.iload_n 1, 1) := by decide +kernel
theorem dJ1_indexOf_4cfef_1 : decode cJ1_indexOf_4cfef 1 = .ok (.invokestatic 88, 3) := by decide +kernel
theorem dJ1_indexOf_4cfef_4 : decode cJ1_indexOf_4cfef 4 = .ok (.ifCond .ne 5, 3) := by decide +kernel
theorem dJ1_indexOf_4cfef_7 : decode cJ1_indexOf_4cfef 7 = .ok (.iconst (-1), 1) := by decide +kernel
theorem dJ1_indexOf_4cfef_8 : decode cJ1_indexOf_4cfef 8 = .ok (.ireturn, 1) := by decide +kernel
theorem dJ1_indexOf_4cfef_9 : decode cJ1_indexOf_4cfef 9 = .ok (.iload_n 2, 1) := by decide +kernel
theorem dJ1_indexOf_4cfef_10 : decode cJ1_indexOf_4cfef 10 = .ok (.iconst 0, 1) := by decide +kernel
theorem dJ1_indexOf_4cfef_11 : decode cJ1_indexOf_4cfef 11 = .ok (.invokestatic 92, 3) := by decide +kernel
theorem dJ1_indexOf_4cfef_14 : decode cJ1_indexOf_4cfef 14 = .ok (.istore_n 2, 1) := by decide +kernel
theorem dJ1_indexOf_4cfef_15 : decode cJ1_indexOf_4cfef 15 = .ok (.iload_n 3, 1) := by decide +kernel
theorem dJ1_indexOf_4cfef_16 : decode cJ1_indexOf_4cfef 16 = .ok (.aload_n 0, 1) := by decide +kernel
theorem dJ1_indexOf_4cfef_17 : decode cJ1_indexOf_4cfef 17 = .ok (.arraylength, 1) := by decide +kernel
theorem dJ1_indexOf_4cfef_18 : decode cJ1_indexOf_4cfef 18 = .ok (.invokestatic 38, 3) := by decide +kernel
theorem dJ1_indexOf_4cfef_21 : decode cJ1_indexOf_4cfef 21 = .ok (.istore_n 3, 1) := by decide +kernel
theorem dJ1_indexOf_4cfef_22 : decode cJ1_indexOf_4cfef 22 = .ok (.iload_n 2, 1) := by decide +kernel
theorem dJ1_indexOf_4cfef_23 : decode cJ1_indexOf_4cfef 23 = .ok (.iload_n 3, 1) := by decide +kernel
theorem dJ1_indexOf_4cfef_24 : decode cJ1_indexOf_4cfef 24 = .ok (.if_icmp .lt 5, 3) := by decide +kernel
theorem dJ1_indexOf_4cfef_27 : decode cJ1_indexOf_4cfef 27 = .ok (.iconst (-1), 1) := by decide +kernel
theorem dJ1_indexOf_4cfef_28 : decode cJ1_indexOf_4cfef 28 = .ok (.ireturn, 1) := by decide +kernel
theorem dJ1_indexOf_4cfef_29 : decode cJ1_indexOf_4cfef 29 = .ok (.aload_n 0, 1) := by decide +kernel
theorem dJ1_indexOf_4cfef_30 : decode cJ1_indexOf_4cfef 30 = .ok (.iload_n 1, 1) := by decide +kernel
theorem dJ1_indexOf_4cfef_31 : decode cJ1_indexOf_4cfef 31 = .ok (.iload_n 2, 1) := by decide +kernel
theorem dJ1_indexOf_4cfef_32 : decode cJ1_indexOf_4cfef 32 = .ok (.iload_n 3, 1) := by decide +kernel
theorem dJ1_indexOf_4cfef_33 : decode cJ1_indexOf_4cfef 33 = .ok (.invokestatic 95, 3) := by decide +kernel
theorem dJ1_indexOf_4cfef_36 : decode cJ1_indexOf_4cfef 36 = .ok (.ireturn, 1) := by decide +kernel
theorem dJ1_indexOfChar_4cfef_0 : decode cJ1_indexOfChar_4cfef 0 = .ok (.iload_n 1, 1) := by decide +kernel
theorem dJ1_indexOfChar_4cfef_1 : decode cJ1_indexOfChar_4cfef 1 = .ok (.i2b, 1) := by decide +kernel
theorem dJ1_indexOfChar_4cfef_2 : decode cJ1_indexOfChar_4cfef 2 = .ok (.istore 4, 2) := by decide +kernel
theorem dJ1_indexOfChar_4cfef_4 : decode cJ1_indexOfChar_4cfef 4 = .ok (.iload_n 2, 1) := by decide +kernel
theorem dJ1_indexOfChar_4cfef_5 : decode cJ1_indexOfChar_4cfef 5 = .ok (.istore 5, 2) := by decide +kernel
theorem dJ1_indexOfChar_4cfef_7 : decode cJ1_indexOfChar_4cfef 7 = .ok (.iload 5, 2) := by decide +kernel
theorem dJ1_indexOfChar_4cfef_9 : decode cJ1_indexOfChar_4cfef 9 = .ok (.iload_n 3, 1) := by decide +kernel
theorem dJ1_indexOfChar_4cfef_10 : decode cJ1_indexOfChar_4cfef 10 = .ok (.if_icmp .ge 21, 3) := by decide +kernel
theorem dJ1_indexOfChar_4cfef_13 : decode cJ1_indexOfChar_4cfef 13 = .ok (.aload_n 0, 1) := by decide +kernel
theorem dJ1_indexOfChar_4cfef_14 : decode cJ1_indexOfChar_4cfef 14 = .ok (.iload 5, 2) := by decide +kernel
theorem dJ1_indexOfChar_4cfef_16 : decode cJ1_indexOfChar_4cfef 16 = .ok (.baload, 1) := by decide +kernel
theorem dJ1_indexOfChar_4cfef_17 : decode cJ1_indexOfChar_4cfef 17 = .ok (.iload 4, 2) := by decide +kernel
theorem dJ1_indexOfChar_4cfef_19 : decode cJ1_indexOfChar_4cfef 19 = .ok (.if_icmp .ne 6, 3) := by decide +kernel
theorem dJ1_indexOfChar_4cfef_22 : decode cJ1_indexOfChar_4cfef 22 = .ok (.iload 5, 2) := by decide +kernel
theorem dJ1_indexOfChar_4cfef_24 : decode cJ1_indexOfChar_4cfef 24 = .ok (.ireturn, 1) := by decide +kernel
theorem dJ1_indexOfChar_4cfef_25 : decode cJ1_indexOfChar_4cfef 25 = .ok (.iinc 5 1, 3) := by decide +kernel
theorem dJ1_indexOfChar_4cfef_28 : decode cJ1_indexOfChar_4cfef 28 = .ok (.goto (-21), 3) := by decide +kernel
theorem dJ1_indexOfChar_4cfef_31 : decode cJ1_indexOfChar_4cfef 31 = .ok (.iconst (-1), 1) := by decide +kernel
theorem dJ1_indexOfChar_4cfef_32 : decode cJ1_indexOfChar_4cfef 32 = .ok (.ireturn, 1) := by decide +kernel
theorem dJ2_getChar_3b067_0 : decode cJ2_getChar_3b067 0 = .ok (.getstatic 44, 3) := by decide +kernel
theorem dJ2_getChar_3b067_3 : decode cJ2_getChar_3b067 3 = .ok (.ifCond .ne 25, 3) := by decide +kernel
theorem dJ2_getChar_3b067_6 : decode cJ2_getChar_3b067 6 = .ok (.iload_n 1, 1) := by decide +kernel
theorem dJ2_getChar_3b067_7 : decode cJ2_getChar_3b067 7 = .ok (.ifCond .lt 11, 3) := by decide +kernel
theorem dJ2_getChar_3b067_10 : decode cJ2_getChar_3b067 10 = .ok (.iload_n 1, 1) := by decide +kernel
theorem dJ2_getChar_3b067_11 : decode cJ2_getChar_3b067 11 = .ok (.aload_n 0, 1) := by decide +kernel
theorem dJ2_getChar_3b067_12 : decode cJ2_getChar_3b067 12 = .ok (.invokestatic 48, 3) := by decide +kernel
theorem dJ2_getChar_3b067_15 : decode cJ2_getChar_3b067 15 = .ok (.if_icmp .lt 13, 3) := by decide +kernel
theorem dJ2_getChar_3b067_18 : decode cJ2_getChar_3b067 18 = .ok (.new 52, 3) := by decide +kernel
theorem dJ2_getChar_3b067_21 : decode cJ2_getChar_3b067 21 = .ok (.dup, 1) := by decide +kernel
theorem dJ2_getChar_3b067_22 : decode cJ2_getChar_3b067 22 = .ok (.ldc 54, 2) := by decide +kernel
theorem dJ2_getChar_3b067_24 : decode cJ2_getChar_3b067 24 = .ok (.invokespecial 56, 3) := by decide +kernel
theorem dJ2_getChar_3b067_27 : decode cJ2_getChar_3b067 27 = .ok (.athrow, 1) := by decide +kernel
theorem dJ2_getChar_3b067_28 : decode cJ2_getChar_3b067 28 = .ok (.iload_n 1, 1) := by decide +kernel
theorem dJ2_getChar_3b067_29 : decode cJ2_getChar_3b067 29 = .ok (.iconst 1, 1) := by decide +kernel
theorem dJ2_getChar_3b067_30 : decode cJ2_getChar_3b067 30 = .ok (.ishl, 1) := by decide +kernel
theorem dJ2_getChar_3b067_31 : decode cJ2_getChar_3b067 31 = .ok (.istore_n 1, 1) := by decide +kernel
theorem dJ2_getChar_3b067_32 : decode cJ2_getChar_3b067 32 = .ok (.aload_n 0, 1) := by decide +kernel
theorem dJ2_getChar_3b067_33 : decode cJ2_getChar_3b067 33 = .ok (.iload_n 1, 1) := by decide +kernel
theorem dJ2_getChar_3b067_34 : decode cJ2_getChar_3b067 34 = .ok (.iinc 1 1, 3) := by decide +kernel
theorem dJ2_getChar_3b067_37 : decode cJ2_getChar_3b067 37 = .ok (.baload, 1) := by decide +kernel
theorem dJ2_getChar_3b067_38 : decode cJ2_getChar_3b067 38 = .ok (.sipush 255, 3) := by decide +kernel
theorem dJ2_getChar_3b067_41 : decode cJ2_getChar_3b067 41 = .ok (.iand, 1) := by decide +kernel
theorem dJ2_getChar_3b067_42 : decode cJ2_getChar_3b067 42 = .ok (.getstatic 59, 3) := by decide +kernel
theorem dJ2_getChar_3b067_45 : decode cJ2_getChar_3b067 45 = .ok (.ishl, 1) := by decide +kernel
theorem dJ2_getChar_3b067_46 : decode cJ2_getChar_3b067 46 = .ok (.aload_n 0, 1) := by decide +kernel
theorem dJ2_getChar_3b067_47 : decode cJ2_getChar_3b067 47 = .ok (.iload_n 1, 1) := by decide +kernel
theorem dJ2_getChar_3b067_48 : decode cJ2_getChar_3b067 48 = .ok (.baload, 1) := by decide +kernel
theorem dJ2_getChar_3b067_49 : decode cJ2_getChar_3b067 49 = .ok (.sipush 255, 3) := by decide +kernel
theorem dJ2_getChar_3b067_52 : decode cJ2_getChar_3b067 52 = .ok (.iand, 1) := by decide +kernel
theorem dJ2_getChar_3b067_53 : decode cJ2_getChar_3b067 53 = .ok (.getstatic 63, 3) := by decide +kernel
theorem dJ2_getChar_3b067_56 : decode cJ2_getChar_3b067 56 = .ok (.ishl, 1) := by decide +kernel
theorem dJ2_getChar_3b067_57 : decode cJ2_getChar_3b067 57 = .ok (.ior, 1) := by decide +kernel
theorem dJ2_getChar_3b067_58 : decode cJ2_getChar_3b067 58 = .ok (.i2c, 1) := by decide +kernel
theorem dJ2_getChar_3b067_59 : decode cJ2_getChar_3b067 59 = .ok (.ireturn, 1) := by decide +kernel
theorem dJ2_length_9d52b_0 : decode cJ2_length_9d52b 0 = .ok (.aload_n 0, 1) := by decide +kernel
theorem dJ2_length_9d52b_1 : decode cJ2_length_9d52b 1 = .ok (.arraylength, 1) := by decide +kernel
theorem dJ2_length_9d52b_2 : decode cJ2_length_9d52b 2 = .ok (.iconst 1, 1) := by decide +kernel
theorem dJ2_length_9d52b_3 : decode cJ2_length_9d52b 3 = .ok (.ishr, 1) := by decide +kernel
theorem dJ2_length_9d52b_4 : decode cJ2_length_9d52b 4 = .ok (.ireturn, 1) := by decide +kernel
theorem dJ2_indexOf_4cfef_0 : decode cJ2_indexOf_4cfef 0 = .ok (.iload_n 2, 1) := by decide +kernel
theorem dJ2_indexOf_4cfef_1 : decode cJ2_indexOf_4cfef 1 = .ok (.iconst 0, 1) := by decide +kernel
theorem dJ2_indexOf_4cfef_2 : decode cJ2_indexOf_4cfef 2 = .ok (.invokestatic 224, 3) := by decide +kernel
theorem dJ2_indexOf_4cfef_5 : decode cJ2_indexOf_4cfef 5 = .ok (.istore_n 2, 1) := by decide +kernel
theorem dJ2_indexOf_4cfef_6 : decode cJ2_indexOf_4cfef 6 = .ok (.iload_n 3, 1) := by decide +kernel
theorem dJ2_indexOf_4cfef_7 : decode cJ2_indexOf_4cfef 7 = .ok (.aload_n 0, 1) := by decide +kernel
theorem dJ2_indexOf_4cfef_8 : decode cJ2_indexOf_4cfef 8 = .ok (.arraylength, 1) := by decide +kernel
theorem dJ2_indexOf_4cfef_9 : decode cJ2_indexOf_4cfef 9 = .ok (.iconst 1, 1) := by decide +kernel
theorem dJ2_indexOf_4cfef_10 : decode cJ2_indexOf_4cfef 10 = .ok (.ishr, 1) := by decide +kernel
theorem dJ2_indexOf_4cfef_11 : decode cJ2_indexOf_4cfef 11 = .ok (.invokestatic 183, 3) := by decide +kernel
theorem dJ2_indexOf_4cfef_14 : decode cJ2_indexOf_4cfef 14 = .ok (.istore_n 3, 1) := by decide +kernel
theorem dJ2_indexOf_4cfef_15 : decode cJ2_indexOf_4cfef 15 = .ok (.iload_n 2, 1) := by decide +kernel
theorem dJ2_indexOf_4cfef_16 : decode cJ2_indexOf_4cfef 16 = .ok (.iload_n 3, 1) := by decide +kernel
theorem dJ2_indexOf_4cfef_17 : decode cJ2_indexOf_4cfef 17 = .ok (.if_icmp .lt 5, 3) := by decide +kernel
theorem dJ2_indexOf_4cfef_20 : decode cJ2_indexOf_4cfef 20 = .ok (.iconst (-1), 1) := by decide +kernel
theorem dJ2_indexOf_4cfef_21 : decode cJ2_indexOf_4cfef 21 = .ok (.ireturn, 1) := by decide +kernel
theorem dJ2_indexOf_4cfef_22 : decode cJ2_indexOf_4cfef 22 = .ok (.iload_n 1, 1) := by decide +kernel
theorem dJ2_indexOf_4cfef_23 : decode cJ2_indexOf_4cfef 23 = .ok (.ldc 227, 2) := by decide +kernel
theorem dJ2_indexOf_4cfef_25 : decode cJ2_indexOf_4cfef 25 = .ok (.if_icmp .ge 11, 3) := by decide +kernel
theorem dJ2_indexOf_4cfef_28 : decode cJ2_indexOf_4cfef 28 = .ok (.aload_n 0, 1) := by decide +kernel
theorem dJ2_indexOf_4cfef_29 : decode cJ2_indexOf_4cfef 29 = .ok (.iload_n 1, 1) := by decide +kernel
theorem dJ2_indexOf_4cfef_30 : decode cJ2_indexOf_4cfef 30 = .ok (.iload_n 2, 1) := by decide +kernel
theorem dJ2_indexOf_4cfef_31 : decode cJ2_indexOf_4cfef 31 = .ok (.iload_n 3, 1) := by decide +kernel
theorem dJ2_indexOf_4cfef_32 : decode cJ2_indexOf_4cfef 32 = .ok (.invokestatic 228, 3) := by decide +kernel
theorem dJ2_indexOf_4cfef_35 : decode cJ2_indexOf_4cfef 35 = .ok (.ireturn, 1) := by decide +kernel
theorem dJ2_indexOf_4cfef_36 : decode cJ2_indexOf_4cfef 36 = .ok (.aload_n 0, 1) := by decide +kernel
theorem dJ2_indexOf_4cfef_37 : decode cJ2_indexOf_4cfef 37 = .ok (.iload_n 1, 1) := by decide +kernel
theorem dJ2_indexOf_4cfef_38 : decode cJ2_indexOf_4cfef 38 = .ok (.iload_n 2, 1) := by decide +kernel
theorem dJ2_indexOf_4cfef_39 : decode cJ2_indexOf_4cfef 39 = .ok (.iload_n 3, 1) := by decide +kernel
theorem dJ2_indexOf_4cfef_40 : decode cJ2_indexOf_4cfef 40 = .ok (.invokestatic 232, 3) := by decide +kernel
theorem dJ2_indexOf_4cfef_43 : decode cJ2_indexOf_4cfef 43 = .ok (.ireturn, 1) := by decide +kernel
theorem dJ2_indexOfChar_4cfef_0 : decode cJ2_indexOfChar_4cfef 0 = .ok (.iload_n 2, 1) := by decide +kernel
theorem dJ2_indexOfChar_4cfef_1 : decode cJ2_indexOfChar_4cfef 1 = .ok (.iload_n 3, 1) := by decide +kernel
theorem dJ2_indexOfChar_4cfef_2 : decode cJ2_indexOfChar_4cfef 2 = .ok (.aload_n 0, 1) := by decide +kernel
theorem dJ2_indexOfChar_4cfef_3 : decode cJ2_indexOfChar_4cfef 3 = .ok (.invokestatic 96, 3) := by decide +kernel
theorem dJ2_indexOfChar_4cfef_6 : decode cJ2_indexOfChar_4cfef 6 = .ok (.aload_n 0, 1) := by decide +kernel
theorem dJ2_indexOfChar_4cfef_7 : decode cJ2_indexOfChar_4cfef 7 = .ok (.iload_n 1, 1) := by decide +kernel
theorem dJ2_indexOfChar_4cfef_8 : decode cJ2_indexOfChar_4cfef 8 = .ok (.iload_n 2, 1) := by decide +kernel
theorem dJ2_indexOfChar_4cfef_9 : decode cJ2_indexOfChar_4cfef 9 = .ok (.iload_n 3, 1) := by decide +kernel
theorem dJ2_indexOfChar_4cfef_10 : decode cJ2_indexOfChar_4cfef 10 = .ok (.invokestatic 244, 3) := by decide +kernel
theorem dJ2_indexOfChar_4cfef_13 : decode cJ2_indexOfChar_4cfef 13 = .ok (.ireturn, 1) := by decide +kernel
theorem dJ2_indexOfCharUnsafe_4cfef_0 : decode cJ2_indexOfCharUnsafe_4cfef 0 = .ok (.iload_n 2, 1) := by decide +kernel
theorem dJ2_indexOfCharUnsafe_4cfef_1 : decode cJ2_indexOfCharUnsafe_4cfef 1 = .ok (.istore 4, 2) := by decide +kernel
theorem dJ2_indexOfCharUnsafe_4cfef_3 : decode cJ2_indexOfCharUnsafe_4cfef 3 = .ok (.iload 4, 2) := by decide +kernel
theorem dJ2_indexOfCharUnsafe_4cfef_5 : decode cJ2_indexOfCharUnsafe_4cfef 5 = .ok (.iload_n 3, 1) := by decide +kernel
theorem dJ2_indexOfCharUnsafe_4cfef_6 : decode cJ2_indexOfCharUnsafe_4cfef 6 = .ok (.if_icmp .ge 22, 3) := by decide +kernel
theorem dJ2_indexOfCharUnsafe_4cfef_9 : decode cJ2_indexOfCharUnsafe_4cfef 9 = .ok (.aload_n 0, 1) := by decide +kernel
theorem dJ2_indexOfCharUnsafe_4cfef_10 : decode cJ2_indexOfCharUnsafe_4cfef 10 = .ok (.iload 4, 2) := by decide +kernel
theorem dJ2_indexOfCharUnsafe_4cfef_12 : decode cJ2_indexOfCharUnsafe_4cfef 12 = .ok (.invokestatic 71, 3) := by decide +kernel
theorem dJ2_indexOfCharUnsafe_4cfef_15 : decode cJ2_indexOfCharUnsafe_4cfef 15 = .ok (.iload_n 1, 1) := by decide +kernel
theorem dJ2_indexOfCharUnsafe_4cfef_16 : decode cJ2_indexOfCharUnsafe_4cfef 16 = .ok (.if_icmp .ne 6, 3) := by decide +kernel
theorem dJ2_indexOfCharUnsafe_4cfef_19 : decode cJ2_indexOfCharUnsafe_4cfef 19 = .ok (.iload 4, 2) := by decide +kernel
theorem dJ2_indexOfCharUnsafe_4cfef_21 : decode cJ2_indexOfCharUnsafe_4cfef 21 = .ok (.ireturn, 1) := by decide +kernel
theorem dJ2_indexOfCharUnsafe_4cfef_22 : decode cJ2_indexOfCharUnsafe_4cfef 22 = .ok (.iinc 4 1, 3) := by decide +kernel
theorem dJ2_indexOfCharUnsafe_4cfef_25 : decode cJ2_indexOfCharUnsafe_4cfef 25 = .ok (.goto (-22), 3) := by decide +kernel
theorem dJ2_indexOfCharUnsafe_4cfef_28 : decode cJ2_indexOfCharUnsafe_4cfef 28 = .ok (.iconst (-1), 1) := by decide +kernel
theorem dJ2_indexOfCharUnsafe_4cfef_29 : decode cJ2_indexOfCharUnsafe_4cfef 29 = .ok (.ireturn, 1) := by decide +kernel
theorem dJ2_indexOfSupplementary_4cfef_0 : decode cJ2_indexOfSupplementary_4cfef 0 = .ok (.iload_n 1, 1) := by decide +kernel
theorem dJ2_indexOfSupplementary_4cfef_1 : decode cJ2_indexOfSupplementary_4cfef 1 = .ok (.invokestatic 164, 3) := by decide +kernel
theorem dJ2_indexOfSupplementary_4cfef_4 : decode cJ2_indexOfSupplementary_4cfef 4 = .ok (.ifCond .eq 65, 3) := by decide +kernel
theorem dJ2_indexOfSupplementary_4cfef_7 : decode cJ2_indexOfSupplementary_4cfef 7 = .ok (.iload_n 1, 1) := by decide +kernel
theorem dJ2_indexOfSupplementary_4cfef_8 : decode cJ2_indexOfSupplementary_4cfef 8 = .ok (.invokestatic 157, 3) := by decide +kernel
theorem dJ2_indexOfSupplementary_4cfef_11 : decode cJ2_indexOfSupplementary_4cfef 11 = .ok (.istore 4, 2) := by decide +kernel
theorem dJ2_indexOfSupplementary_4cfef_13 : decode cJ2_indexOfSupplementary_4cfef 13 = .ok (.iload_n 1, 1) := by decide +kernel
theorem dJ2_indexOfSupplementary_4cfef_14 : decode cJ2_indexOfSupplementary_4cfef 14 = .ok (.invokestatic 161, 3) := by decide +kernel
theorem dJ2_indexOfSupplementary_4cfef_17 : decode cJ2_indexOfSupplementary_4cfef 17 = .ok (.istore 5, 2) := by decide +kernel
theorem dJ2_indexOfSupplementary_4cfef_19 : decode cJ2_indexOfSupplementary_4cfef 19 = .ok (.iload_n 2, 1) := by decide +kernel
theorem dJ2_indexOfSupplementary_4cfef_20 : decode cJ2_indexOfSupplementary_4cfef 20 = .ok (.iload_n 3, 1) := by decide +kernel
theorem dJ2_indexOfSupplementary_4cfef_21 : decode cJ2_indexOfSupplementary_4cfef 21 = .ok (.aload_n 0, 1) := by decide +kernel
theorem dJ2_indexOfSupplementary_4cfef_22 : decode cJ2_indexOfSupplementary_4cfef 22 = .ok (.invokestatic 96, 3) := by decide +kernel
theorem dJ2_indexOfSupplementary_4cfef_25 : decode cJ2_indexOfSupplementary_4cfef 25 = .ok (.iload_n 2, 1) := by decide +kernel
theorem dJ2_indexOfSupplementary_4cfef_26 : decode cJ2_indexOfSupplementary_4cfef 26 = .ok (.istore 6, 2) := by decide +kernel
theorem dJ2_indexOfSupplementary_4cfef_28 : decode cJ2_indexOfSupplementary_4cfef 28 = .ok (.iload 6, 2) := by decide +kernel
theorem dJ2_indexOfSupplementary_4cfef_30 : decode cJ2_indexOfSupplementary_4cfef 30 = .ok (.iload_n 3, 1) := by decide +kernel
theorem dJ2_indexOfSupplementary_4cfef_31 : decode cJ2_indexOfSupplementary_4cfef 31 = .ok (.iconst 1, 1) := by decide +kernel
theorem dJ2_indexOfSupplementary_4cfef_32 : decode cJ2_indexOfSupplementary_4cfef 32 = .ok (.isub, 1) := by decide +kernel
theorem dJ2_indexOfSupplementary_4cfef_33 : decode cJ2_indexOfSupplementary_4cfef 33 = .ok (.if_icmp .ge 36, 3) := by decide +kernel
theorem dJ2_indexOfSupplementary_4cfef_36 : decode cJ2_indexOfSupplementary_4cfef 36 = .ok (.aload_n 0, 1) := by decide +kernel
theorem dJ2_indexOfSupplementary_4cfef_37 : decode cJ2_indexOfSupplementary_4cfef 37 = .ok (.iload 6, 2) := by decide +kernel
theorem dJ2_indexOfSupplementary_4cfef_39 : decode cJ2_indexOfSupplementary_4cfef 39 = .ok (.invokestatic 71, 3) := by decide +kernel
theorem dJ2_indexOfSupplementary_4cfef_42 : decode cJ2_indexOfSupplementary_4cfef 42 = .ok (.iload 4, 2) := by decide +kernel
theorem dJ2_indexOfSupplementary_4cfef_44 : decode cJ2_indexOfSupplementary_4cfef 44 = .ok (.if_icmp .ne 19, 3) := by decide +kernel
theorem dJ2_indexOfSupplementary_4cfef_47 : decode cJ2_indexOfSupplementary_4cfef 47 = .ok (.aload_n 0, 1) := by decide +kernel
theorem dJ2_indexOfSupplementary_4cfef_48 : decode cJ2_indexOfSupplementary_4cfef 48 = .ok (.iload 6, 2) := by decide +kernel
theorem dJ2_indexOfSupplementary_4cfef_50 : decode cJ2_indexOfSupplementary_4cfef 50 = .ok (.iconst 1, 1) := by decide +kernel
theorem dJ2_indexOfSupplementary_4cfef_51 : decode cJ2_indexOfSupplementary_4cfef 51 = .ok (.iadd, 1) := by decide +kernel
theorem dJ2_indexOfSupplementary_4cfef_52 : decode cJ2_indexOfSupplementary_4cfef 52 = .ok (.invokestatic 71, 3) := by decide +kernel
theorem dJ2_indexOfSupplementary_4cfef_55 : decode cJ2_indexOfSupplementary_4cfef 55 = .ok (.iload 5, 2) := by decide +kernel
theorem dJ2_indexOfSupplementary_4cfef_57 : decode cJ2_indexOfSupplementary_4cfef 57 = .ok (.if_icmp .ne 6, 3) := by decide +kernel
theorem dJ2_indexOfSupplementary_4cfef_60 : decode cJ2_indexOfSupplementary_4cfef 60 = .ok (.iload 6, 2) := by decide +kernel
theorem dJ2_indexOfSupplementary_4cfef_62 : decode cJ2_indexOfSupplementary_4cfef 62 = .ok (.ireturn, 1) := by decide +kernel
theorem dJ2_indexOfSupplementary_4cfef_63 : decode cJ2_indexOfSupplementary_4cfef 63 = .ok (.iinc 6 1, 3) := by decide +kernel
theorem dJ2_indexOfSupplementary_4cfef_66 : decode cJ2_indexOfSupplementary_4cfef 66 = .ok (.goto (-38), 3) := by decide +kernel
theorem dJ2_indexOfSupplementary_4cfef_69 : decode cJ2_indexOfSupplementary_4cfef 69 = .ok (.iconst (-1), 1) := by decide +kernel
theorem dJ2_indexOfSupplementary_4cfef_70 : decode cJ2_indexOfSupplementary_4cfef 70 = .ok (.ireturn, 1) := by decide +kernel
theorem dJ2_checkBoundsBeginEnd_d044e_0 : decode cJ2_checkBoundsBeginEnd_d044e 0 = .ok (.iload_n 0, 1) := by decide +kernel
theorem dJ2_checkBoundsBeginEnd_d044e_1 : decode cJ2_checkBoundsBeginEnd_d044e 1 = .ok (.iload_n 1, 1) := by decide +kernel
theorem dJ2_checkBoundsBeginEnd_d044e_2 : decode cJ2_checkBoundsBeginEnd_d044e 2 = .ok (.aload_n 2, 1) := by decide +kernel
theorem dJ2_checkBoundsBeginEnd_d044e_3 : decode cJ2_checkBoundsBeginEnd_d044e 3 = .ok (.invokestatic 48, 3) := by decide +kernel
theorem dJ2_checkBoundsBeginEnd_d044e_6 : decode cJ2_checkBoundsBeginEnd_d044e 6 = .ok (.invokestatic 241, 3) := by decide +kernel
theorem dJ2_checkBoundsBeginEnd_d044e_9 : decode cJ2_checkBoundsBeginEnd_d044e 9 = .ok (.return_, 1) := by decide +kernel
theorem dJxa1e45_init_da8c8_0 : decode cJxa1e45_init_da8c8 0 = .ok (.aload_n 0, 1) := by decide +kernel
theorem dJxa1e45_init_da8c8_1 : decode cJxa1e45_init_da8c8 1 = .ok (.invokespecial 1, 3) := by decide +kernel
theorem dJxa1e45_init_da8c8_4 : decode cJxa1e45_init_da8c8 4 = .ok (.return_, 1) := by decide +kernel
theorem dJxc12de_init_da8c8_0 : decode cJxc12de_init_da8c8 0 = .ok (.aload_n 0, 1) := by decide +kernel
theorem dJxc12de_init_da8c8_1 : decode cJxc12de_init_da8c8 1 = .ok (.invokespecial 1, 3) := by decide +kernel
theorem dJxc12de_init_da8c8_4 : decode cJxc12de_init_da8c8 4 = .ok (.aload_n 0, 1) := by decide +kernel
theorem dJxc12de_init_da8c8_5 : decode cJxc12de_init_da8c8 5 = .ok (.iconst 0, 1) := by decide +kernel
theorem dJxc12de_init_da8c8_6 : decode cJxc12de_init_da8c8 6 = .ok (.putfield 7, 3) := by decide +kernel
theorem dJxc12de_init_da8c8_9 : decode cJxc12de_init_da8c8 9 = .ok (.return_, 1) := by decide +kernel
theorem dJx35411_init_45d68_0 : decode cJx35411_init_45d68 0 = .ok (.aload_n 0, 1) := by decide +kernel
theorem dJx35411_init_45d68_1 : decode cJx35411_init_45d68 1 = .ok (.aload_n 1, 1) := by decide +kernel
theorem dJx35411_init_45d68_2 : decode cJx35411_init_45d68 2 = .ok (.putfield 1, 3) := by decide +kernel
theorem dJx35411_init_45d68_5 : decode cJx35411_init_45d68 5 = .ok (.aload_n 0, 1) := by decide +kernel
theorem dJx35411_init_45d68_6 : decode cJx35411_init_45d68 6 = .ok (.invokespecial 7, 3) := by decide +kernel
theorem dJx35411_init_45d68_9 : decode cJx35411_init_45d68 9 = .ok (.aload_n 0, 1) := by decide +kernel
theorem dJx35411_init_45d68_10 : decode cJx35411_init_45d68 10 = .ok (.iconst (-1), 1) := by decide +kernel
theorem dJx35411_init_45d68_11 : decode cJx35411_init_45d68 11 = .ok (.putfield 13, 3) := by decide +kernel
theorem dJx35411_init_45d68_14 : decode cJx35411_init_45d68 14 = .ok (.aload_n 0, 1) := by decide +kernel
theorem dJx35411_init_45d68_15 : decode cJx35411_init_45d68 15 = .ok (.aload_n 0, 1) := by decide +kernel
theorem dJx35411_init_45d68_16 : decode cJx35411_init_45d68 16 = .ok (.getfield 1, 3) := by decide +kernel
theorem dJx35411_init_45d68_19 : decode cJx35411_init_45d68 19 = .ok (.getfield 17, 3) := by decide +kernel
theorem dJx35411_init_45d68_22 : decode cJx35411_init_45d68 22 = .ok (.putfield 22, 3) := by decide +kernel
theorem dJx35411_init_45d68_25 : decode cJx35411_init_45d68 25 = .ok (.return_, 1) := by decide +kernel
theorem dJx35411_hasNext_aae02_0 : decode cJx35411_hasNext_aae02 0 = .ok (.aload_n 0, 1) := by decide +kernel
theorem dJx35411_hasNext_aae02_1 : decode cJx35411_hasNext_aae02 1 = .ok (.getfield 25, 3) := by decide +kernel
theorem dJx35411_hasNext_aae02_4 : decode cJx35411_hasNext_aae02 4 = .ok (.aload_n 0, 1) := by decide +kernel
theorem dJx35411_hasNext_aae02_5 : decode cJx35411_hasNext_aae02 5 = .ok (.getfield 1, 3) := by decide +kernel
theorem dJx35411_hasNext_aae02_8 : decode cJx35411_hasNext_aae02 8 = .ok (.getfield 28, 3) := by decide +kernel
theorem dJx35411_hasNext_aae02_11 : decode cJx35411_hasNext_aae02 11 = .ok (.if_icmp .eq 7, 3) := by decide +kernel
theorem dJx35411_hasNext_aae02_14 : decode cJx35411_hasNext_aae02 14 = .ok (.iconst 1, 1) := by decide +kernel
theorem dJx35411_hasNext_aae02_15 : decode cJx35411_hasNext_aae02 15 = .ok (.goto 4, 3) := by decide +kernel
theorem dJx35411_hasNext_aae02_18 : decode cJx35411_hasNext_aae02 18 = .ok (.iconst 0, 1) := by decide +kernel
theorem dJx35411_hasNext_aae02_19 : decode cJx35411_hasNext_aae02 19 = .ok (.ireturn, 1) := by decide +kernel
theorem dJx35411_next_0502b_0 : decode cJx35411_next_0502b 0 = .ok (.aload_n 0, 1) := by decide +kernel
theorem dJx35411_next_0502b_1 : decode cJx35411_next_0502b 1 = .ok (.invokevirtual 31, 3) := by decide +kernel
theorem dJx35411_next_0502b_4 : decode cJx35411_next_0502b 4 = .ok (.aload_n 0, 1) := by decide +kernel
theorem dJx35411_next_0502b_5 : decode cJx35411_next_0502b 5 = .ok (.getfield 25, 3) := by decide +kernel
theorem dJx35411_next_0502b_8 : decode cJx35411_next_0502b 8 = .ok (.istore_n 1, 1) := by decide +kernel
theorem dJx35411_next_0502b_9 : decode cJx35411_next_0502b 9 = .ok (.iload_n 1, 1) := by decide +kernel
theorem dJx35411_next_0502b_10 : decode cJx35411_next_0502b 10 = .ok (.aload_n 0, 1) := by decide +kernel
theorem dJx35411_next_0502b_11 : decode cJx35411_next_0502b 11 = .ok (.getfield 1, 3) := by decide +kernel
theorem dJx35411_next_0502b_14 : decode cJx35411_next_0502b 14 = .ok (.getfield 28, 3) := by decide +kernel
theorem dJx35411_next_0502b_17 : decode cJx35411_next_0502b 17 = .ok (.if_icmp .lt 11, 3) := by decide +kernel
theorem dJx35411_next_0502b_20 : decode cJx35411_next_0502b 20 = .ok (.new 34, 3) := by decide +kernel
theorem dJx35411_next_0502b_23 : decode cJx35411_next_0502b 23 = .ok (.dup, 1) := by decide +kernel
theorem dJx35411_next_0502b_24 : decode cJx35411_next_0502b 24 = .ok (.invokespecial 36, 3) := by decide +kernel
theorem dJx35411_next_0502b_27 : decode cJx35411_next_0502b 27 = .ok (.athrow, 1) := by decide +kernel
theorem dJx35411_next_0502b_28 : decode cJx35411_next_0502b 28 = .ok (.aload_n 0, 1) := by decide +kernel
theorem dJx35411_next_0502b_29 : decode cJx35411_next_0502b 29 = .ok (.getfield 1, 3) := by decide +kernel
theorem dJx35411_next_0502b_32 : decode cJx35411_next_0502b 32 = .ok (.getfield 37, 3) := by decide +kernel
theorem dJx35411_next_0502b_35 : decode cJx35411_next_0502b 35 = .ok (.astore_n 2, 1) := by decide +kernel
theorem dJx35411_next_0502b_36 : decode cJx35411_next_0502b 36 = .ok (.iload_n 1, 1) := by decide +kernel
theorem dJx35411_next_0502b_37 : decode cJx35411_next_0502b 37 = .ok (.aload_n 2, 1) := by decide +kernel
theorem dJx35411_next_0502b_38 : decode cJx35411_next_0502b 38 = .ok (.arraylength, 1) := by decide +kernel
theorem dJx35411_next_0502b_39 : decode cJx35411_next_0502b 39 = .ok (.if_icmp .lt 11, 3) := by decide +kernel
theorem dJx35411_next_0502b_42 : decode cJx35411_next_0502b 42 = .ok (.new 41, 3) := by decide +kernel
theorem dJx35411_next_0502b_45 : decode cJx35411_next_0502b 45 = .ok (.dup, 1) := by decide +kernel
theorem dJx35411_next_0502b_46 : decode cJx35411_next_0502b 46 = .ok (.invokespecial 43, 3) := by decide +kernel
theorem dJx35411_next_0502b_49 : decode cJx35411_next_0502b 49 = .ok (.athrow, 1) := by decide +kernel
theorem dJx35411_next_0502b_50 : decode cJx35411_next_0502b 50 = .ok (.aload_n 0, 1) := by decide +kernel
theorem dJx35411_next_0502b_51 : decode cJx35411_next_0502b 51 = .ok (.iload_n 1, 1) := by decide +kernel
theorem dJx35411_next_0502b_52 : decode cJx35411_next_0502b 52 = .ok (.iconst 1, 1) := by decide +kernel
theorem dJx35411_next_0502b_53 : decode cJx35411_next_0502b 53 = .ok (.iadd, 1) := by decide +kernel
theorem dJx35411_next_0502b_54 : decode cJx35411_next_0502b 54 = .ok (.putfield 25, 3) := by decide +kernel
theorem dJx35411_next_0502b_57 : decode cJx35411_next_0502b 57 = .ok (.aload_n 2, 1) := by decide +kernel
theorem dJx35411_next_0502b_58 : decode cJx35411_next_0502b 58 = .ok (.aload_n 0, 1) := by decide +kernel
theorem dJx35411_next_0502b_59 : decode cJx35411_next_0502b 59 = .ok (.iload_n 1, 1) := by decide +kernel
theorem dJx35411_next_0502b_60 : decode cJx35411_next_0502b 60 = .ok (.dup_x1, 1) := by decide +kernel
theorem dJx35411_next_0502b_61 : decode cJx35411_next_0502b 61 = .ok (.putfield 13, 3) := by decide +kernel
theorem dJx35411_next_0502b_64 : decode cJx35411_next_0502b 64 = .ok (.aaload, 1) := by decide +kernel
theorem dJx35411_next_0502b_65 : decode cJx35411_next_0502b 65 = .ok (.areturn, 1) := by decide +kernel
theorem dJx35411_checkForComodification_da8c8_0 : decode cJx35411_checkForComodification_da8c8 0 = .ok (.aload_n 0, 1) := by decide +kernel
theorem dJx35411_checkForComodification_da8c8_1 : decode cJx35411_checkForComodification_da8c8 1 = .ok (.getfield 1, 3) := by decide +kernel
theorem dJx35411_checkForComodification_da8c8_4 : decode cJx35411_checkForComodification_da8c8 4 = .ok (.getfield 17, 3) := by decide +kernel
theorem dJx35411_checkForComodification_da8c8_7 : decode cJx35411_checkForComodification_da8c8 7 = .ok (.aload_n 0, 1) := by decide +kernel
theorem dJx35411_checkForComodification_da8c8_8 : decode cJx35411_checkForComodification_da8c8 8 = .ok (.getfield 22, 3) := by decide +kernel
theorem dJx35411_checkForComodification_da8c8_11 : decode cJx35411_checkForComodification_da8c8 11 = .ok (.if_icmp .eq 11, 3) := by decide +kernel
theorem dJx35411_checkForComodification_da8c8_14 : decode cJx35411_checkForComodification_da8c8 14 = .ok (.new 41, 3) := by decide +kernel
theorem dJx35411_checkForComodification_da8c8_17 : decode cJx35411_checkForComodification_da8c8 17 = .ok (.dup, 1) := by decide +kernel
theorem dJx35411_checkForComodification_da8c8_18 : decode cJx35411_checkForComodification_da8c8 18 = .ok (.invokespecial 43, 3) := by decide +kernel
theorem dJx35411_checkForComodification_da8c8_21 : decode cJx35411_checkForComodification_da8c8 21 = .ok (.athrow, 1) := by decide +kernel
theorem dJx35411_checkForComodification_da8c8_22 : decode cJx35411_checkForComodification_da8c8 22 = .ok (.return_, 1) := by decide +kernel
theorem dJx4a65c_init_da8c8_0 : decode cJx4a65c_init_da8c8 0 = .ok (.aload_n 0, 1) := by decide +kernel
theorem dJx4a65c_init_da8c8_1 : decode cJx4a65c_init_da8c8 1 = .ok (.invokespecial 1, 3) := by decide +kernel
theorem dJx4a65c_init_da8c8_4 : decode cJx4a65c_init_da8c8 4 = .ok (.aload_n 0, 1) := by decide +kernel
theorem dJx4a65c_init_da8c8_5 : decode cJx4a65c_init_da8c8 5 = .ok (.getstatic 39, 3) := by decide +kernel
theorem dJx4a65c_init_da8c8_8 : decode cJx4a65c_init_da8c8 8 = .ok (.putfield 9, 3) := by decide +kernel
theorem dJx4a65c_init_da8c8_11 : decode cJx4a65c_init_da8c8 11 = .ok (.return_, 1) := by decide +kernel
theorem dJx4a65c_grow_92f84_0 : decode cJx4a65c_grow_92f84 0 = .ok (.aload_n 0, 1) := by decide +kernel
theorem dJx4a65c_grow_92f84_1 : decode cJx4a65c_grow_92f84 1 = .ok (.getfield 9, 3) := by decide +kernel
theorem dJx4a65c_grow_92f84_4 : decode cJx4a65c_grow_92f84 4 = .ok (.arraylength, 1) := by decide +kernel
theorem dJx4a65c_grow_92f84_5 : decode cJx4a65c_grow_92f84 5 = .ok (.istore_n 2, 1) := by decide +kernel
theorem dJx4a65c_grow_92f84_6 : decode cJx4a65c_grow_92f84 6 = .ok (.iload_n 2, 1) := by decide +kernel
theorem dJx4a65c_grow_92f84_7 : decode cJx4a65c_grow_92f84 7 = .ok (.ifCond .gt 13, 3) := by decide +kernel
theorem dJx4a65c_grow_92f84_10 : decode cJx4a65c_grow_92f84 10 = .ok (.aload_n 0, 1) := by decide +kernel
theorem dJx4a65c_grow_92f84_11 : decode cJx4a65c_grow_92f84 11 = .ok (.getfield 9, 3) := by decide +kernel
theorem dJx4a65c_grow_92f84_14 : decode cJx4a65c_grow_92f84 14 = .ok (.getstatic 39, 3) := by decide +kernel
theorem dJx4a65c_grow_92f84_17 : decode cJx4a65c_grow_92f84 17 = .ok (.if_acmp .eq 28, 3) := by decide +kernel
theorem dJx4a65c_grow_92f84_20 : decode cJx4a65c_grow_92f84 20 = .ok (.iload_n 2, 1) := by decide +kernel
theorem dJx4a65c_grow_92f84_21 : decode cJx4a65c_grow_92f84 21 = .ok (.iload_n 1, 1) := by decide +kernel
theorem dJx4a65c_grow_92f84_22 : decode cJx4a65c_grow_92f84 22 = .ok (.iload_n 2, 1) := by decide +kernel
theorem dJx4a65c_grow_92f84_23 : decode cJx4a65c_grow_92f84 23 = .ok (.isub, 1) := by decide +kernel
theorem dJx4a65c_grow_92f84_24 : decode cJx4a65c_grow_92f84 24 = .ok (.iload_n 2, 1) := by decide +kernel
theorem dJx4a65c_grow_92f84_25 : decode cJx4a65c_grow_92f84 25 = .ok (.iconst 1, 1) := by decide +kernel
theorem dJx4a65c_grow_92f84_26 : decode cJx4a65c_grow_92f84 26 = .ok (.ishr, 1) := by decide +kernel
theorem dJx4a65c_grow_92f84_27 : decode cJx4a65c_grow_92f84 27 = .ok (.invokestatic 73, 3) := by decide +kernel
theorem dJx4a65c_grow_92f84_30 : decode cJx4a65c_grow_92f84 30 = .ok (.istore_n 3, 1) := by decide +kernel
theorem dJx4a65c_grow_92f84_31 : decode cJx4a65c_grow_92f84 31 = .ok (.aload_n 0, 1) := by decide +kernel
theorem dJx4a65c_grow_92f84_32 : decode cJx4a65c_grow_92f84 32 = .ok (.aload_n 0, 1) := by decide +kernel
theorem dJx4a65c_grow_92f84_33 : decode cJx4a65c_grow_92f84 33 = .ok (.getfield 9, 3) := by decide +kernel
theorem dJx4a65c_grow_92f84_36 : decode cJx4a65c_grow_92f84 36 = .ok (.iload_n 3, 1) := by decide +kernel
theorem dJx4a65c_grow_92f84_37 : decode cJx4a65c_grow_92f84 37 = .ok (.invokestatic 66, 3) := by decide +kernel
theorem dJx4a65c_grow_92f84_40 : decode cJx4a65c_grow_92f84 40 = .ok (.dup_x1, 1) := by decide +kernel
theorem dJx4a65c_grow_92f84_41 : decode cJx4a65c_grow_92f84 41 = .ok (.putfield 9, 3) := by decide +kernel
theorem dJx4a65c_grow_92f84_44 : decode cJx4a65c_grow_92f84 44 = .ok (.areturn, 1) := by decide +kernel
theorem dJx4a65c_grow_92f84_45 : decode cJx4a65c_grow_92f84 45 = .ok (.aload_n 0, 1) := by decide +kernel
theorem dJx4a65c_grow_92f84_46 : decode cJx4a65c_grow_92f84 46 = .ok (.bipush 10, 2) := by decide +kernel
theorem dJx4a65c_grow_92f84_48 : decode cJx4a65c_grow_92f84 48 = .ok (.iload_n 1, 1) := by decide +kernel
theorem dJx4a65c_grow_92f84_49 : decode cJx4a65c_grow_92f84 49 = .ok (.invokestatic 79, 3) := by decide +kernel
theorem dJx4a65c_grow_92f84_52 : decode cJx4a65c_grow_92f84 52 = .ok (.anewarray 7, 3) := by decide +kernel
theorem dJx4a65c_grow_92f84_55 : decode cJx4a65c_grow_92f84 55 = .ok (.dup_x1, 1) := by decide +kernel
theorem dJx4a65c_grow_92f84_56 : decode cJx4a65c_grow_92f84 56 = .ok (.putfield 9, 3) := by decide +kernel
theorem dJx4a65c_grow_92f84_59 : decode cJx4a65c_grow_92f84 59 = .ok (.areturn, 1) := by decide +kernel
theorem dJx4a65c_grow_d5877_0 : decode cJx4a65c_grow_d5877 0 = .ok (.aload_n 0, 1) := by decide +kernel
theorem dJx4a65c_grow_d5877_1 : decode cJx4a65c_grow_d5877 1 = .ok (.aload_n 0, 1) := by decide +kernel
theorem dJx4a65c_grow_d5877_2 : decode cJx4a65c_grow_d5877 2 = .ok (.getfield 48, 3) := by decide +kernel
theorem dJx4a65c_grow_d5877_5 : decode cJx4a65c_grow_d5877 5 = .ok (.iconst 1, 1) := by decide +kernel
theorem dJx4a65c_grow_d5877_6 : decode cJx4a65c_grow_d5877 6 = .ok (.iadd, 1) := by decide +kernel
theorem dJx4a65c_grow_d5877_7 : decode cJx4a65c_grow_d5877 7 = .ok (.invokevirtual 69, 3) := by decide +kernel
theorem dJx4a65c_grow_d5877_10 : decode cJx4a65c_grow_d5877 10 = .ok (.areturn, 1) := by decide +kernel
theorem dJx4a65c_size_8abf5_0 : decode cJx4a65c_size_8abf5 0 = .ok (.aload_n 0, 1) := by decide +kernel
theorem dJx4a65c_size_8abf5_1 : decode cJx4a65c_size_8abf5 1 = .ok (.getfield 48, 3) := by decide +kernel
theorem dJx4a65c_size_8abf5_4 : decode cJx4a65c_size_8abf5 4 = .ok (.ireturn, 1) := by decide +kernel
theorem dJx4a65c_isEmpty_aae02_0 : decode cJx4a65c_isEmpty_aae02 0 = .ok (.aload_n 0, 1) := by decide +kernel
theorem dJx4a65c_isEmpty_aae02_1 : decode cJx4a65c_isEmpty_aae02 1 = .ok (.getfield 48, 3) := by decide +kernel
theorem dJx4a65c_isEmpty_aae02_4 : decode cJx4a65c_isEmpty_aae02 4 = .ok (.ifCond .ne 7, 3) := by decide +kernel
theorem dJx4a65c_isEmpty_aae02_7 : decode cJx4a65c_isEmpty_aae02 7 = .ok (.iconst 1, 1) := by decide +kernel
theorem dJx4a65c_isEmpty_aae02_8 : decode cJx4a65c_isEmpty_aae02 8 = .ok (.goto 4, 3) := by decide +kernel
theorem dJx4a65c_isEmpty_aae02_11 : decode cJx4a65c_isEmpty_aae02 11 = .ok (.iconst 0, 1) := by decide +kernel
theorem dJx4a65c_isEmpty_aae02_12 : decode cJx4a65c_isEmpty_aae02 12 = .ok (.ireturn, 1) := by decide +kernel
theorem dJx4a65c_elementData_915e3_0 : decode cJx4a65c_elementData_915e3 0 = .ok (.aload_n 0, 1) := by decide +kernel
theorem dJx4a65c_elementData_915e3_1 : decode cJx4a65c_elementData_915e3 1 = .ok (.getfield 9, 3) := by decide +kernel
theorem dJx4a65c_elementData_915e3_4 : decode cJx4a65c_elementData_915e3 4 = .ok (.iload_n 1, 1) := by decide +kernel
theorem dJx4a65c_elementData_915e3_5 : decode cJx4a65c_elementData_915e3 5 = .ok (.aaload, 1) := by decide +kernel
theorem dJx4a65c_elementData_915e3_6 : decode cJx4a65c_elementData_915e3 6 = .ok (.areturn, 1) := by decide +kernel
theorem dJx4a65c_get_915e3_0 : decode cJx4a65c_get_915e3 0 = .ok (.iload_n 1, 1) := by decide +kernel
theorem dJx4a65c_get_915e3_1 : decode cJx4a65c_get_915e3 1 = .ok (.aload_n 0, 1) := by decide +kernel
theorem dJx4a65c_get_915e3_2 : decode cJx4a65c_get_915e3 2 = .ok (.getfield 48, 3) := by decide +kernel
theorem dJx4a65c_get_915e3_5 : decode cJx4a65c_get_915e3 5 = .ok (.invokestatic 118, 3) := by decide +kernel
theorem dJx4a65c_get_915e3_8 : decode cJx4a65c_get_915e3 8 = .ok (.pop, 1) := by decide +kernel
theorem dJx4a65c_get_915e3_9 : decode cJx4a65c_get_915e3 9 = .ok (.aload_n 0, 1) := by decide +kernel
theorem dJx4a65c_get_915e3_10 : decode cJx4a65c_get_915e3 10 = .ok (.iload_n 1, 1) := by decide +kernel
theorem dJx4a65c_get_915e3_11 : decode cJx4a65c_get_915e3 11 = .ok (.invokevirtual 123, 3) := by decide +kernel
theorem dJx4a65c_get_915e3_14 : decode cJx4a65c_get_915e3 14 = .ok (.areturn, 1) := by decide +kernel
theorem dJx4a65c_add_72be8_0 : decode cJx4a65c_add_72be8 0 = .ok (.iload_n 3, 1) := by decide +kernel
theorem dJx4a65c_add_72be8_1 : decode cJx4a65c_add_72be8 1 = .ok (.aload_n 2, 1) := by decide +kernel
theorem dJx4a65c_add_72be8_2 : decode cJx4a65c_add_72be8 2 = .ok (.arraylength, 1) := by decide +kernel
theorem dJx4a65c_add_72be8_3 : decode cJx4a65c_add_72be8 3 = .ok (.if_icmp .ne 8, 3) := by decide +kernel
theorem dJx4a65c_add_72be8_6 : decode cJx4a65c_add_72be8 6 = .ok (.aload_n 0, 1) := by decide +kernel
theorem dJx4a65c_add_72be8_7 : decode cJx4a65c_add_72be8 7 = .ok (.invokevirtual 129, 3) := by decide +kernel
theorem dJx4a65c_add_72be8_10 : decode cJx4a65c_add_72be8 10 = .ok (.astore_n 2, 1) := by decide +kernel
theorem dJx4a65c_add_72be8_11 : decode cJx4a65c_add_72be8 11 = .ok (.aload_n 2, 1) := by decide +kernel
theorem dJx4a65c_add_72be8_12 : decode cJx4a65c_add_72be8 12 = .ok (.iload_n 3, 1) := by decide +kernel
theorem dJx4a65c_add_72be8_13 : decode cJx4a65c_add_72be8 13 = .ok (.aload_n 1, 1) := by decide +kernel
theorem dJx4a65c_add_72be8_14 : decode cJx4a65c_add_72be8 14 = .ok (.aastore, 1) := by decide +kernel
theorem dJx4a65c_add_72be8_15 : decode cJx4a65c_add_72be8 15 = .ok (.aload_n 0, 1) := by decide +kernel
theorem dJx4a65c_add_72be8_16 : decode cJx4a65c_add_72be8 16 = .ok (.iload_n 3, 1) := by decide +kernel
theorem dJx4a65c_add_72be8_17 : decode cJx4a65c_add_72be8 17 = .ok (.iconst 1, 1) := by decide +kernel
theorem dJx4a65c_add_72be8_18 : decode cJx4a65c_add_72be8 18 = .ok (.iadd, 1) := by decide +kernel
theorem dJx4a65c_add_72be8_19 : decode cJx4a65c_add_72be8 19 = .ok (.putfield 48, 3) := by decide +kernel
theorem dJx4a65c_add_72be8_22 : decode cJx4a65c_add_72be8 22 = .ok (.return_, 1) := by decide +kernel
theorem dJx4a65c_add_9ea2d_0 : decode cJx4a65c_add_9ea2d 0 = .ok (.aload_n 0, 1) := by decide +kernel
theorem dJx4a65c_add_9ea2d_1 : decode cJx4a65c_add_9ea2d 1 = .ok (.dup, 1) := by decide +kernel
theorem dJx4a65c_add_9ea2d_2 : decode cJx4a65c_add_9ea2d 2 = .ok (.getfield 63, 3) := by decide +kernel
theorem dJx4a65c_add_9ea2d_5 : decode cJx4a65c_add_9ea2d 5 = .ok (.iconst 1, 1) := by decide +kernel
theorem dJx4a65c_add_9ea2d_6 : decode cJx4a65c_add_9ea2d 6 = .ok (.iadd, 1) := by decide +kernel
theorem dJx4a65c_add_9ea2d_7 : decode cJx4a65c_add_9ea2d 7 = .ok (.putfield 63, 3) := by decide +kernel
theorem dJx4a65c_add_9ea2d_10 : decode cJx4a65c_add_9ea2d 10 = .ok (.aload_n 0, 1) := by decide +kernel
theorem dJx4a65c_add_9ea2d_11 : decode cJx4a65c_add_9ea2d 11 = .ok (.aload_n 1, 1) := by decide +kernel
theorem dJx4a65c_add_9ea2d_12 : decode cJx4a65c_add_9ea2d 12 = .ok (.aload_n 0, 1) := by decide +kernel
theorem dJx4a65c_add_9ea2d_13 : decode cJx4a65c_add_9ea2d 13 = .ok (.getfield 9, 3) := by decide +kernel
theorem dJx4a65c_add_9ea2d_16 : decode cJx4a65c_add_9ea2d 16 = .ok (.aload_n 0, 1) := by decide +kernel
theorem dJx4a65c_add_9ea2d_17 : decode cJx4a65c_add_9ea2d 17 = .ok (.getfield 48, 3) := by decide +kernel
theorem dJx4a65c_add_9ea2d_20 : decode cJx4a65c_add_9ea2d 20 = .ok (.invokevirtual 131, 3) := by decide +kernel
theorem dJx4a65c_add_9ea2d_23 : decode cJx4a65c_add_9ea2d 23 = .ok (.iconst 1, 1) := by decide +kernel
theorem dJx4a65c_add_9ea2d_24 : decode cJx4a65c_add_9ea2d 24 = .ok (.ireturn, 1) := by decide +kernel
theorem dJx4a65c_remove_915e3_0 : decode cJx4a65c_remove_915e3 0 = .ok (.iload_n 1, 1) := by decide +kernel
theorem dJx4a65c_remove_915e3_1 : decode cJx4a65c_remove_915e3 1 = .ok (.aload_n 0, 1) := by decide +kernel
theorem dJx4a65c_remove_915e3_2 : decode cJx4a65c_remove_915e3 2 = .ok (.getfield 48, 3) := by decide +kernel
theorem dJx4a65c_remove_915e3_5 : decode cJx4a65c_remove_915e3 5 = .ok (.invokestatic 118, 3) := by decide +kernel
theorem dJx4a65c_remove_915e3_8 : decode cJx4a65c_remove_915e3 8 = .ok (.pop, 1) := by decide +kernel
theorem dJx4a65c_remove_915e3_9 : decode cJx4a65c_remove_915e3 9 = .ok (.aload_n 0, 1) := by decide +kernel
theorem dJx4a65c_remove_915e3_10 : decode cJx4a65c_remove_915e3 10 = .ok (.getfield 9, 3) := by decide +kernel
theorem dJx4a65c_remove_915e3_13 : decode cJx4a65c_remove_915e3 13 = .ok (.astore_n 2, 1) := by decide +kernel
theorem dJx4a65c_remove_915e3_14 : decode cJx4a65c_remove_915e3 14 = .ok (.aload_n 2, 1) := by decide +kernel
theorem dJx4a65c_remove_915e3_15 : decode cJx4a65c_remove_915e3 15 = .ok (.iload_n 1, 1) := by decide +kernel
theorem dJx4a65c_remove_915e3_16 : decode cJx4a65c_remove_915e3 16 = .ok (.aaload, 1) := by decide +kernel
theorem dJx4a65c_remove_915e3_17 : decode cJx4a65c_remove_915e3 17 = .ok (.astore_n 3, 1) := by decide +kernel
theorem dJx4a65c_remove_915e3_18 : decode cJx4a65c_remove_915e3 18 = .ok (.aload_n 0, 1) := by decide +kernel
theorem dJx4a65c_remove_915e3_19 : decode cJx4a65c_remove_915e3 19 = .ok (.aload_n 2, 1) := by decide +kernel
theorem dJx4a65c_remove_915e3_20 : decode cJx4a65c_remove_915e3 20 = .ok (.iload_n 1, 1) := by decide +kernel
theorem dJx4a65c_remove_915e3_21 : decode cJx4a65c_remove_915e3 21 = .ok (.invokevirtual 144, 3) := by decide +kernel
theorem dJx4a65c_remove_915e3_24 : decode cJx4a65c_remove_915e3 24 = .ok (.aload_n 3, 1) := by decide +kernel
theorem dJx4a65c_remove_915e3_25 : decode cJx4a65c_remove_915e3 25 = .ok (.areturn, 1) := by decide +kernel
theorem dJx4a65c_fastRemove_b59b0_0 : decode cJx4a65c_fastRemove_b59b0 0 = .ok (.aload_n 0, 1) := by decide +kernel
theorem dJx4a65c_fastRemove_b59b0_1 : decode cJx4a65c_fastRemove_b59b0 1 = .ok (.dup, 1) := by decide +kernel
theorem dJx4a65c_fastRemove_b59b0_2 : decode cJx4a65c_fastRemove_b59b0 2 = .ok (.getfield 63, 3) := by decide +kernel
theorem dJx4a65c_fastRemove_b59b0_5 : decode cJx4a65c_fastRemove_b59b0 5 = .ok (.iconst 1, 1) := by decide +kernel
theorem dJx4a65c_fastRemove_b59b0_6 : decode cJx4a65c_fastRemove_b59b0 6 = .ok (.iadd, 1) := by decide +kernel
theorem dJx4a65c_fastRemove_b59b0_7 : decode cJx4a65c_fastRemove_b59b0 7 = .ok (.putfield 63, 3) := by decide +kernel
theorem dJx4a65c_fastRemove_b59b0_10 : decode cJx4a65c_fastRemove_b59b0 10 = .ok (.aload_n 0, 1) := by decide +kernel
theorem dJx4a65c_fastRemove_b59b0_11 : decode cJx4a65c_fastRemove_b59b0 11 = .ok (.getfield 48, 3) := by decide +kernel
theorem dJx4a65c_fastRemove_b59b0_14 : decode cJx4a65c_fastRemove_b59b0 14 = .ok (.iconst 1, 1) := by decide +kernel
theorem dJx4a65c_fastRemove_b59b0_15 : decode cJx4a65c_fastRemove_b59b0 15 = .ok (.isub, 1) := by decide +kernel
theorem dJx4a65c_fastRemove_b59b0_16 : decode cJx4a65c_fastRemove_b59b0 16 = .ok (.dup, 1) := by decide +kernel
theorem dJx4a65c_fastRemove_b59b0_17 : decode cJx4a65c_fastRemove_b59b0 17 = .ok (.istore_n 3, 1) := by decide +kernel
theorem dJx4a65c_fastRemove_b59b0_18 : decode cJx4a65c_fastRemove_b59b0 18 = .ok (.iload_n 2, 1) := by decide +kernel
theorem dJx4a65c_fastRemove_b59b0_19 : decode cJx4a65c_fastRemove_b59b0 19 = .ok (.if_icmp .le 15, 3) := by decide +kernel
theorem dJx4a65c_fastRemove_b59b0_22 : decode cJx4a65c_fastRemove_b59b0 22 = .ok (.aload_n 1, 1) := by decide +kernel
theorem dJx4a65c_fastRemove_b59b0_23 : decode cJx4a65c_fastRemove_b59b0 23 = .ok (.iload_n 2, 1) := by decide +kernel
theorem dJx4a65c_fastRemove_b59b0_24 : decode cJx4a65c_fastRemove_b59b0 24 = .ok (.iconst 1, 1) := by decide +kernel
theorem dJx4a65c_fastRemove_b59b0_25 : decode cJx4a65c_fastRemove_b59b0 25 = .ok (.iadd, 1) := by decide +kernel
theorem dJx4a65c_fastRemove_b59b0_26 : decode cJx4a65c_fastRemove_b59b0 26 = .ok (.aload_n 1, 1) := by decide +kernel
theorem dJx4a65c_fastRemove_b59b0_27 : decode cJx4a65c_fastRemove_b59b0 27 = .ok (.iload_n 2, 1) := by decide +kernel
theorem dJx4a65c_fastRemove_b59b0_28 : decode cJx4a65c_fastRemove_b59b0 28 = .ok (.iload_n 3, 1) := by decide +kernel
theorem dJx4a65c_fastRemove_b59b0_29 : decode cJx4a65c_fastRemove_b59b0 29 = .ok (.iload_n 2, 1) := by decide +kernel
theorem dJx4a65c_fastRemove_b59b0_30 : decode cJx4a65c_fastRemove_b59b0 30 = .ok (.isub, 1) := by decide +kernel
theorem dJx4a65c_fastRemove_b59b0_31 : decode cJx4a65c_fastRemove_b59b0 31 = .ok (.invokestatic 112, 3) := by decide +kernel
theorem dJx4a65c_fastRemove_b59b0_34 : decode cJx4a65c_fastRemove_b59b0 34 = .ok (.aload_n 1, 1) := by decide +kernel
theorem dJx4a65c_fastRemove_b59b0_35 : decode cJx4a65c_fastRemove_b59b0 35 = .ok (.aload_n 0, 1) := by decide +kernel
theorem dJx4a65c_fastRemove_b59b0_36 : decode cJx4a65c_fastRemove_b59b0 36 = .ok (.iload_n 3, 1) := by decide +kernel
theorem dJx4a65c_fastRemove_b59b0_37 : decode cJx4a65c_fastRemove_b59b0 37 = .ok (.dup_x1, 1) := by decide +kernel
theorem dJx4a65c_fastRemove_b59b0_38 : decode cJx4a65c_fastRemove_b59b0 38 = .ok (.putfield 48, 3) := by decide +kernel
theorem dJx4a65c_fastRemove_b59b0_41 : decode cJx4a65c_fastRemove_b59b0 41 = .ok (.aconst_null, 1) := by decide +kernel
theorem dJx4a65c_fastRemove_b59b0_42 : decode cJx4a65c_fastRemove_b59b0 42 = .ok (.aastore, 1) := by decide +kernel
theorem dJx4a65c_fastRemove_b59b0_43 : decode cJx4a65c_fastRemove_b59b0 43 = .ok (.return_, 1) := by decide +kernel
theorem dJx4a65c_iterator_32c93_0 : decode cJx4a65c_iterator_32c93 0 = .ok (.new 267, 3) := by decide +kernel
theorem dJx4a65c_iterator_32c93_3 : decode cJx4a65c_iterator_32c93 3 = .ok (.dup, 1) := by decide +kernel
theorem dJx4a65c_iterator_32c93_4 : decode cJx4a65c_iterator_32c93 4 = .ok (.aload_n 0, 1) := by decide +kernel
theorem dJx4a65c_iterator_32c93_5 : decode cJx4a65c_iterator_32c93 5 = .ok (.invokespecial 269, 3) := by decide +kernel
theorem dJx4a65c_iterator_32c93_8 : decode cJx4a65c_iterator_32c93 8 = .ok (.areturn, 1) := by decide +kernel
theorem dJ7_copyOf_1904c_0 : decode cJ7_copyOf_1904c 0 = .ok (.aload_n 0, 1) := by decide +kernel
theorem dJ7_copyOf_1904c_1 : decode cJ7_copyOf_1904c 1 = .ok (.iload_n 1, 1) := by decide +kernel
theorem dJ7_copyOf_1904c_2 : decode cJ7_copyOf_1904c 2 = .ok (.aload_n 0, 1) := by decide +kernel
theorem dJ7_copyOf_1904c_3 : decode cJ7_copyOf_1904c 3 = .ok (.invokevirtual 86, 3) := by decide +kernel
theorem dJ7_copyOf_1904c_6 : decode cJ7_copyOf_1904c 6 = .ok (.invokestatic 300, 3) := by decide +kernel
theorem dJ7_copyOf_1904c_9 : decode cJ7_copyOf_1904c 9 = .ok (.areturn, 1) := by decide +kernel
theorem dJ7_copyOf_6403c_0 : decode cJ7_copyOf_6403c 0 = .ok (.aload_n 2, 1) := by decide +kernel
theorem dJ7_copyOf_6403c_1 : decode cJ7_copyOf_6403c 1 = .ok (.ldc 110, 2) := by decide +kernel
theorem dJ7_copyOf_6403c_3 : decode cJ7_copyOf_6403c 3 = .ok (.if_acmp .ne 10, 3) := by decide +kernel
theorem dJ7_copyOf_6403c_6 : decode cJ7_copyOf_6403c 6 = .ok (.iload_n 1, 1) := by decide +kernel
theorem dJ7_copyOf_6403c_7 : decode cJ7_copyOf_6403c 7 = .ok (.anewarray 2, 3) := by decide +kernel
theorem dJ7_copyOf_6403c_10 : decode cJ7_copyOf_6403c 10 = .ok (.goto 14, 3) := by decide +kernel
theorem dJ7_copyOf_6403c_13 : decode cJ7_copyOf_6403c 13 = .ok (.aload_n 2, 1) := by decide +kernel
theorem dJ7_copyOf_6403c_14 : decode cJ7_copyOf_6403c 14 = .ok (.invokevirtual 90, 3) := by decide +kernel
theorem dJ7_copyOf_6403c_17 : decode cJ7_copyOf_6403c 17 = .ok (.iload_n 1, 1) := by decide +kernel
theorem dJ7_copyOf_6403c_18 : decode cJ7_copyOf_6403c 18 = .ok (.invokestatic 95, 3) := by decide +kernel
theorem dJ7_copyOf_6403c_21 : decode cJ7_copyOf_6403c 21 = .ok (.checkcast 110, 3) := by decide +kernel
theorem dJ7_copyOf_6403c_24 : decode cJ7_copyOf_6403c 24 = .ok (.astore_n 3, 1) := by decide +kernel
theorem dJ7_copyOf_6403c_25 : decode cJ7_copyOf_6403c 25 = .ok (.aload_n 0, 1) := by decide +kernel
theorem dJ7_copyOf_6403c_26 : decode cJ7_copyOf_6403c 26 = .ok (.iconst 0, 1) := by decide +kernel
theorem dJ7_copyOf_6403c_27 : decode cJ7_copyOf_6403c 27 = .ok (.aload_n 3, 1) := by decide +kernel
theorem dJ7_copyOf_6403c_28 : decode cJ7_copyOf_6403c 28 = .ok (.iconst 0, 1) := by decide +kernel
theorem dJ7_copyOf_6403c_29 : decode cJ7_copyOf_6403c 29 = .ok (.aload_n 0, 1) := by decide +kernel
theorem dJ7_copyOf_6403c_30 : decode cJ7_copyOf_6403c 30 = .ok (.arraylength, 1) := by decide +kernel
theorem dJ7_copyOf_6403c_31 : decode cJ7_copyOf_6403c 31 = .ok (.iload_n 1, 1) := by decide +kernel
theorem dJ7_copyOf_6403c_32 : decode cJ7_copyOf_6403c 32 = .ok (.invokestatic 304, 3) := by decide +kernel
theorem dJ7_copyOf_6403c_35 : decode cJ7_copyOf_6403c 35 = .ok (.invokestatic 150, 3) := by decide +kernel
theorem dJ7_copyOf_6403c_38 : decode cJ7_copyOf_6403c 38 = .ok (.aload_n 3, 1) := by decide +kernel
theorem dJ7_copyOf_6403c_39 : decode cJ7_copyOf_6403c 39 = .ok (.areturn, 1) := by decide +kernel
theorem dJ15_checkIndex_7cf53_0 : decode cJ15_checkIndex_7cf53 0 = .ok (.iload_n 0, 1) := by decide +kernel
theorem dJ15_checkIndex_7cf53_1 : decode cJ15_checkIndex_7cf53 1 = .ok (.iload_n 1, 1) := by decide +kernel
theorem dJ15_checkIndex_7cf53_2 : decode cJ15_checkIndex_7cf53 2 = .ok (.aconst_null, 1) := by decide +kernel
theorem dJ15_checkIndex_7cf53_3 : decode cJ15_checkIndex_7cf53 3 = .ok (.invokestatic 105, 3) := by decide +kernel
theorem dJ15_checkIndex_7cf53_6 : decode cJ15_checkIndex_7cf53 6 = .ok (.ireturn, 1) := by decide +kernel
theorem dJ8_newLength_cabcc_0 : decode cJ8_newLength_cabcc 0 = .ok (.iload_n 0, 1) := by decide +kernel
theorem dJ8_newLength_cabcc_1 : decode cJ8_newLength_cabcc 1 = .ok (.iload_n 1, 1) := by decide +kernel
theorem dJ8_newLength_cabcc_2 : decode cJ8_newLength_cabcc 2 = .ok (.iload_n 2, 1) := by decide +kernel
theorem dJ8_newLength_cabcc_3 : decode cJ8_newLength_cabcc 3 = .ok (.invokestatic 194, 3) := by decide +kernel
theorem dJ8_newLength_cabcc_6 : decode cJ8_newLength_cabcc 6 = .ok (.iadd, 1) := by decide +kernel
theorem dJ8_newLength_cabcc_7 : decode cJ8_newLength_cabcc 7 = .ok (.istore_n 3, 1) := by decide +kernel
theorem dJ8_newLength_cabcc_8 : decode cJ8_newLength_cabcc 8 = .ok (.iconst 0, 1) := by decide +kernel
theorem dJ8_newLength_cabcc_9 : decode cJ8_newLength_cabcc 9 = .ok (.iload_n 3, 1) := by decide +kernel
theorem dJ8_newLength_cabcc_10 : decode cJ8_newLength_cabcc 10 = .ok (.if_icmp .ge 11, 3) := by decide +kernel
theorem dJ8_newLength_cabcc_13 : decode cJ8_newLength_cabcc 13 = .ok (.iload_n 3, 1) := by decide +kernel
theorem dJ8_newLength_cabcc_14 : decode cJ8_newLength_cabcc 14 = .ok (.ldc 200, 2) := by decide +kernel
theorem dJ8_newLength_cabcc_16 : decode cJ8_newLength_cabcc 16 = .ok (.if_icmp .gt 5, 3) := by decide +kernel
theorem dJ8_newLength_cabcc_19 : decode cJ8_newLength_cabcc 19 = .ok (.iload_n 3, 1) := by decide +kernel
theorem dJ8_newLength_cabcc_20 : decode cJ8_newLength_cabcc 20 = .ok (.ireturn, 1) := by decide +kernel
theorem dJ8_newLength_cabcc_21 : decode cJ8_newLength_cabcc 21 = .ok (.iload_n 0, 1) := by decide +kernel
theorem dJ8_newLength_cabcc_22 : decode cJ8_newLength_cabcc 22 = .ok (.iload_n 1, 1) := by decide +kernel
theorem dJ8_newLength_cabcc_23 : decode cJ8_newLength_cabcc 23 = .ok (.invokestatic 201, 3) := by decide +kernel
theorem dJ8_newLength_cabcc_26 : decode cJ8_newLength_cabcc 26 = .ok (.ireturn, 1) := by decide +kernel
theorem dJ8_hugeLength_7cf53_0 : decode cJ8_hugeLength_7cf53 0 = .ok (.iload_n 0, 1) := by decide +kernel
theorem dJ8_hugeLength_7cf53_1 : decode cJ8_hugeLength_7cf53 1 = .ok (.iload_n 1, 1) := by decide +kernel
theorem dJ8_hugeLength_7cf53_2 : decode cJ8_hugeLength_7cf53 2 = .ok (.iadd, 1) := by decide +kernel
theorem dJ8_hugeLength_7cf53_3 : decode cJ8_hugeLength_7cf53 3 = .ok (.istore_n 2, 1) := by decide +kernel
theorem dJ8_hugeLength_7cf53_4 : decode cJ8_hugeLength_7cf53 4 = .ok (.iload_n 2, 1) := by decide +kernel
theorem dJ8_hugeLength_7cf53_5 : decode cJ8_hugeLength_7cf53 5 = .ok (.ifCond .ge 44, 3) := by decide +kernel
theorem dJ8_hugeLength_7cf53_8 : decode cJ8_hugeLength_7cf53 8 = .ok (.new 204, 3) := by decide +kernel
theorem dJ8_hugeLength_7cf53_11 : decode cJ8_hugeLength_7cf53 11 = .ok (.dup, 1) := by decide +kernel
theorem dJ8_hugeLength_7cf53_12 : decode cJ8_hugeLength_7cf53 12 = .ok (.new 89, 3) := by decide +kernel
theorem dJ8_hugeLength_7cf53_15 : decode cJ8_hugeLength_7cf53 15 = .ok (.dup, 1) := by decide +kernel
theorem dJ8_hugeLength_7cf53_16 : decode cJ8_hugeLength_7cf53 16 = .ok (.invokespecial 91, 3) := by decide +kernel
theorem dJ8_hugeLength_7cf53_19 : decode cJ8_hugeLength_7cf53 19 = .ok (.ldc 206, 2) := by decide +kernel
theorem dJ8_hugeLength_7cf53_21 : decode cJ8_hugeLength_7cf53 21 = .ok (.invokevirtual 94, 3) := by decide +kernel
theorem dJ8_hugeLength_7cf53_24 : decode cJ8_hugeLength_7cf53 24 = .ok (.iload_n 0, 1) := by decide +kernel
theorem dJ8_hugeLength_7cf53_25 : decode cJ8_hugeLength_7cf53 25 = .ok (.invokevirtual 98, 3) := by decide +kernel
theorem dJ8_hugeLength_7cf53_28 : decode cJ8_hugeLength_7cf53 28 = .ok (.ldc 208, 2) := by decide +kernel
theorem dJ8_hugeLength_7cf53_30 : decode cJ8_hugeLength_7cf53 30 = .ok (.invokevirtual 94, 3) := by decide +kernel
theorem dJ8_hugeLength_7cf53_33 : decode cJ8_hugeLength_7cf53 33 = .ok (.iload_n 1, 1) := by decide +kernel
theorem dJ8_hugeLength_7cf53_34 : decode cJ8_hugeLength_7cf53 34 = .ok (.invokevirtual 98, 3) := by decide +kernel
theorem dJ8_hugeLength_7cf53_37 : decode cJ8_hugeLength_7cf53 37 = .ok (.ldc 210, 2) := by decide +kernel
theorem dJ8_hugeLength_7cf53_39 : decode cJ8_hugeLength_7cf53 39 = .ok (.invokevirtual 94, 3) := by decide +kernel
theorem dJ8_hugeLength_7cf53_42 : decode cJ8_hugeLength_7cf53 42 = .ok (.invokevirtual 101, 3) := by decide +kernel
theorem dJ8_hugeLength_7cf53_45 : decode cJ8_hugeLength_7cf53 45 = .ok (.invokespecial 212, 3) := by decide +kernel
theorem dJ8_hugeLength_7cf53_48 : decode cJ8_hugeLength_7cf53 48 = .ok (.athrow, 1) := by decide +kernel
theorem dJ8_hugeLength_7cf53_49 : decode cJ8_hugeLength_7cf53 49 = .ok (.iload_n 2, 1) := by decide +kernel
theorem dJ8_hugeLength_7cf53_50 : decode cJ8_hugeLength_7cf53 50 = .ok (.ldc 200, 2) := by decide +kernel
theorem dJ8_hugeLength_7cf53_52 : decode cJ8_hugeLength_7cf53 52 = .ok (.if_icmp .gt 6, 3) := by decide +kernel
theorem dJ8_hugeLength_7cf53_55 : decode cJ8_hugeLength_7cf53 55 = .ok (.ldc 200, 2) := by decide +kernel
theorem dJ8_hugeLength_7cf53_57 : decode cJ8_hugeLength_7cf53 57 = .ok (.ireturn, 1) := by decide +kernel
theorem dJ8_hugeLength_7cf53_58 : decode cJ8_hugeLength_7cf53 58 = .ok (.iload_n 2, 1) := by decide +kernel
theorem dJ8_hugeLength_7cf53_59 : decode cJ8_hugeLength_7cf53 59 = .ok (.ireturn, 1) := by decide +kernel
theorem dJ3_checkIndex_8e157_0 : decode cJ3_checkIndex_8e157 0 = .ok (.iload_n 0, 1) := by decide +kernel
theorem dJ3_checkIndex_8e157_1 : decode cJ3_checkIndex_8e157 1 = .ok (.ifCond .lt 8, 3) := by decide +kernel
theorem dJ3_checkIndex_8e157_4 : decode cJ3_checkIndex_8e157 4 = .ok (.iload_n 0, 1) := by decide +kernel
theorem dJ3_checkIndex_8e157_5 : decode cJ3_checkIndex_8e157 5 = .ok (.iload_n 1, 1) := by decide +kernel
theorem dJ3_checkIndex_8e157_6 : decode cJ3_checkIndex_8e157 6 = .ok (.if_icmp .lt 10, 3) := by decide +kernel
theorem dJ3_checkIndex_8e157_9 : decode cJ3_checkIndex_8e157 9 = .ok (.aload_n 2, 1) := by decide +kernel
theorem dJ3_checkIndex_8e157_10 : decode cJ3_checkIndex_8e157 10 = .ok (.iload_n 0, 1) := by decide +kernel
theorem dJ3_checkIndex_8e157_11 : decode cJ3_checkIndex_8e157 11 = .ok (.iload_n 1, 1) := by decide +kernel
theorem dJ3_checkIndex_8e157_12 : decode cJ3_checkIndex_8e157 12 = .ok (.invokestatic 95, 3) := by decide +kernel
theorem dJ3_checkIndex_8e157_15 : decode cJ3_checkIndex_8e157 15 = .ok (.athrow, 1) := by decide +kernel
theorem dJ3_checkIndex_8e157_16 : decode cJ3_checkIndex_8e157 16 = .ok (.iload_n 0, 1) := by decide +kernel
theorem dJ3_checkIndex_8e157_17 : decode cJ3_checkIndex_8e157 17 = .ok (.ireturn, 1) := by decide +kernel
theorem dJ3_checkFromToIndex_8c36e_0 : decode cJ3_checkFromToIndex_8c36e 0 = .ok (.iload_n 0, 1) := by decide +kernel
theorem dJ3_checkFromToIndex_8c36e_1 : decode cJ3_checkFromToIndex_8c36e 1 = .ok (.ifCond .lt 13, 3) := by decide +kernel
theorem dJ3_checkFromToIndex_8c36e_4 : decode cJ3_checkFromToIndex_8c36e 4 = .ok (.iload_n 0, 1) := by decide +kernel
theorem dJ3_checkFromToIndex_8c36e_5 : decode cJ3_checkFromToIndex_8c36e 5 = .ok (.iload_n 1, 1) := by decide +kernel
theorem dJ3_checkFromToIndex_8c36e_6 : decode cJ3_checkFromToIndex_8c36e 6 = .ok (.if_icmp .gt 8, 3) := by decide +kernel
theorem dJ3_checkFromToIndex_8c36e_9 : decode cJ3_checkFromToIndex_8c36e 9 = .ok (.iload_n 1, 1) := by decide +kernel
theorem dJ3_checkFromToIndex_8c36e_10 : decode cJ3_checkFromToIndex_8c36e 10 = .ok (.iload_n 2, 1) := by decide +kernel
theorem dJ3_checkFromToIndex_8c36e_11 : decode cJ3_checkFromToIndex_8c36e 11 = .ok (.if_icmp .le 11, 3) := by decide +kernel
theorem dJ3_checkFromToIndex_8c36e_14 : decode cJ3_checkFromToIndex_8c36e 14 = .ok (.aload_n 3, 1) := by decide +kernel
theorem dJ3_checkFromToIndex_8c36e_15 : decode cJ3_checkFromToIndex_8c36e 15 = .ok (.iload_n 0, 1) := by decide +kernel
theorem dJ3_checkFromToIndex_8c36e_16 : decode cJ3_checkFromToIndex_8c36e 16 = .ok (.iload_n 1, 1) := by decide +kernel
theorem dJ3_checkFromToIndex_8c36e_17 : decode cJ3_checkFromToIndex_8c36e 17 = .ok (.iload_n 2, 1) := by decide +kernel
theorem dJ3_checkFromToIndex_8c36e_18 : decode cJ3_checkFromToIndex_8c36e 18 = .ok (.invokestatic 99, 3) := by decide +kernel
theorem dJ3_checkFromToIndex_8c36e_21 : decode cJ3_checkFromToIndex_8c36e 21 = .ok (.athrow, 1) := by decide +kernel
theorem dJ3_checkFromToIndex_8c36e_22 : decode cJ3_checkFromToIndex_8c36e 22 = .ok (.iload_n 0, 1) := by decide +kernel
theorem dJ3_checkFromToIndex_8c36e_23 : decode cJ3_checkFromToIndex_8c36e 23 = .ok (.ireturn, 1) := by decide +kernel
theorem dL_log_0 : decode cL_log 0 = .ok (.aload 5, 2) := by decide +kernel
theorem dL_log_2 : decode cL_log 2 = .ok (.iconst 0, 1) := by decide +kernel
theorem dL_log_3 : decode cL_log 3 = .ok (.aload_n 0, 1) := by decide +kernel
theorem dL_log_4 : decode cL_log 4 = .ok (.iload_n 1, 1) := by decide +kernel
theorem dL_log_5 : decode cL_log 5 = .ok (.iload_n 2, 1) := by decide +kernel
theorem dL_log_6 : decode cL_log 6 = .ok (.iload_n 3, 1) := by decide +kernel
theorem dL_log_7 : decode cL_log 7 = .ok (.iload 4, 2) := by decide +kernel
theorem dL_log_9 : decode cL_log 9 = .ok (.invokevirtual 7, 3) := by decide +kernel
theorem dL_log_12 : decode cL_log 12 = .ok (.i2l, 1) := by decide +kernel
theorem dL_log_13 : decode cL_log 13 = .ok (.lastore, 1) := by decide +kernel
theorem dL_log_14 : decode cL_log 14 = .ok (.goto 11, 3) := by decide +kernel
theorem dL_log_17 : decode cL_log 17 = .ok (.astore 6, 2) := by decide +kernel
theorem dL_log_19 : decode cL_log 19 = .ok (.iconst 1, 1) := by decide +kernel
theorem dL_log_20 : decode cL_log 20 = .ok (.ireturn, 1) := by decide +kernel
theorem dL_log_21 : decode cL_log 21 = .ok (.astore 6, 2) := by decide +kernel
theorem dL_log_23 : decode cL_log 23 = .ok (.iconst 2, 1) := by decide +kernel
theorem dL_log_24 : decode cL_log 24 = .ok (.ireturn, 1) := by decide +kernel
theorem dL_log_25 : decode cL_log 25 = .ok (.iconst 0, 1) := by decide +kernel
theorem dL_log_26 : decode cL_log 26 = .ok (.ireturn, 1) := by decide +kernel
theorem dL_slice_0 : decode cL_slice 0 = .ok (.aload 4, 2) := by decide +kernel
theorem dL_slice_2 : decode cL_slice 2 = .ok (.iconst 0, 1) := by decide +kernel
theorem dL_slice_3 : decode cL_slice 3 = .ok (.aload_n 0, 1) := by decide +kernel
theorem dL_slice_4 : decode cL_slice 4 = .ok (.iload_n 1, 1) := by decide +kernel
theorem dL_slice_5 : decode cL_slice 5 = .ok (.iload_n 2, 1) := by decide +kernel
theorem dL_slice_6 : decode cL_slice 6 = .ok (.iload_n 3, 1) := by decide +kernel
theorem dL_slice_7 : decode cL_slice 7 = .ok (.invokevirtual 17, 3) := by decide +kernel
theorem dL_slice_10 : decode cL_slice 10 = .ok (.i2l, 1) := by decide +kernel
theorem dL_slice_11 : decode cL_slice 11 = .ok (.lastore, 1) := by decide +kernel
theorem dL_slice_12 : decode cL_slice 12 = .ok (.goto 15, 3) := by decide +kernel
theorem dL_slice_15 : decode cL_slice 15 = .ok (.astore 5, 2) := by decide +kernel
theorem dL_slice_17 : decode cL_slice 17 = .ok (.iconst 1, 1) := by decide +kernel
theorem dL_slice_18 : decode cL_slice 18 = .ok (.ireturn, 1) := by decide +kernel
theorem dL_slice_19 : decode cL_slice 19 = .ok (.astore 5, 2) := by decide +kernel
theorem dL_slice_21 : decode cL_slice 21 = .ok (.iconst 2, 1) := by decide +kernel
theorem dL_slice_22 : decode cL_slice 22 = .ok (.ireturn, 1) := by decide +kernel
theorem dL_slice_23 : decode cL_slice 23 = .ok (.astore 5, 2) := by decide +kernel
theorem dL_slice_25 : decode cL_slice 25 = .ok (.iconst 3, 1) := by decide +kernel
theorem dL_slice_26 : decode cL_slice 26 = .ok (.ireturn, 1) := by decide +kernel
theorem dL_slice_27 : decode cL_slice 27 = .ok (.iconst 0, 1) := by decide +kernel
theorem dL_slice_28 : decode cL_slice 28 = .ok (.ireturn, 1) := by decide +kernel
theorem dL_leaves_0 : decode cL_leaves 0 = .ok (.aload_n 2, 1) := by decide +kernel
theorem dL_leaves_1 : decode cL_leaves 1 = .ok (.iconst 0, 1) := by decide +kernel
theorem dL_leaves_2 : decode cL_leaves 2 = .ok (.aload_n 0, 1) := by decide +kernel
theorem dL_leaves_3 : decode cL_leaves 3 = .ok (.iload_n 1, 1) := by decide +kernel
theorem dL_leaves_4 : decode cL_leaves 4 = .ok (.invokevirtual 25, 3) := by decide +kernel
theorem dL_leaves_7 : decode cL_leaves 7 = .ok (.i2l, 1) := by decide +kernel
theorem dL_leaves_8 : decode cL_leaves 8 = .ok (.lastore, 1) := by decide +kernel
theorem dL_leaves_9 : decode cL_leaves 9 = .ok (.goto 6, 3) := by decide +kernel
theorem dL_leaves_12 : decode cL_leaves 12 = .ok (.astore_n 3, 1) := by decide +kernel
theorem dL_leaves_13 : decode cL_leaves 13 = .ok (.iconst 1, 1) := by decide +kernel
theorem dL_leaves_14 : decode cL_leaves 14 = .ok (.ireturn, 1) := by decide +kernel
theorem dL_leaves_15 : decode cL_leaves 15 = .ok (.iconst 0, 1) := by decide +kernel
theorem dL_leaves_16 : decode cL_leaves 16 = .ok (.ireturn, 1) := by decide +kernel
theorem dL_width_0 : decode cL_width 0 = .ok (.aload_n 3, 1) := by decide +kernel
theorem dL_width_1 : decode cL_width 1 = .ok (.iconst 0, 1) := by decide +kernel
theorem dL_width_2 : decode cL_width 2 = .ok (.aload_n 0, 1) := by decide +kernel
theorem dL_width_3 : decode cL_width 3 = .ok (.iload_n 1, 1) := by decide +kernel
theorem dL_width_4 : decode cL_width 4 = .ok (.iload_n 2, 1) := by decide +kernel
theorem dL_width_5 : decode cL_width 5 = .ok (.invokevirtual 29, 3) := by decide +kernel
theorem dL_width_8 : decode cL_width 8 = .ok (.i2l, 1) := by decide +kernel
theorem dL_width_9 : decode cL_width 9 = .ok (.lastore, 1) := by decide +kernel
theorem dL_width_10 : decode cL_width 10 = .ok (.goto 7, 3) := by decide +kernel
theorem dL_width_13 : decode cL_width 13 = .ok (.astore 4, 2) := by decide +kernel
theorem dL_width_15 : decode cL_width 15 = .ok (.iconst 1, 1) := by decide +kernel
theorem dL_width_16 : decode cL_width 16 = .ok (.ireturn, 1) := by decide +kernel
theorem dL_width_17 : decode cL_width 17 = .ok (.iconst 0, 1) := by decide +kernel
theorem dL_width_18 : decode cL_width 18 = .ok (.ireturn, 1) := by decide +kernel
theorem dL_area_0 : decode cL_area 0 = .ok (.aload_n 3, 1) := by decide +kernel
theorem dL_area_1 : decode cL_area 1 = .ok (.iconst 0, 1) := by decide +kernel
theorem dL_area_2 : decode cL_area 2 = .ok (.aload_n 0, 1) := by decide +kernel
theorem dL_area_3 : decode cL_area 3 = .ok (.iload_n 1, 1) := by decide +kernel
theorem dL_area_4 : decode cL_area 4 = .ok (.iload_n 2, 1) := by decide +kernel
theorem dL_area_5 : decode cL_area 5 = .ok (.invokevirtual 33, 3) := by decide +kernel
theorem dL_area_8 : decode cL_area 8 = .ok (.i2l, 1) := by decide +kernel
theorem dL_area_9 : decode cL_area 9 = .ok (.lastore, 1) := by decide +kernel
theorem dL_area_10 : decode cL_area 10 = .ok (.goto 7, 3) := by decide +kernel
theorem dL_area_13 : decode cL_area 13 = .ok (.astore 4, 2) := by decide +kernel
theorem dL_area_15 : decode cL_area 15 = .ok (.iconst 1, 1) := by decide +kernel
theorem dL_area_16 : decode cL_area 16 = .ok (.ireturn, 1) := by decide +kernel
theorem dL_area_17 : decode cL_area 17 = .ok (.iconst 0, 1) := by decide +kernel
theorem dL_area_18 : decode cL_area 18 = .ok (.ireturn, 1) := by decide +kernel
theorem dL_figure_0 : decode cL_figure 0 = .ok (.aload_n 3, 1) := by decide +kernel
theorem dL_figure_1 : decode cL_figure 1 = .ok (.iconst 0, 1) := by decide +kernel
theorem dL_figure_2 : decode cL_figure 2 = .ok (.aload_n 0, 1) := by decide +kernel
theorem dL_figure_3 : decode cL_figure 3 = .ok (.iload_n 1, 1) := by decide +kernel
theorem dL_figure_4 : decode cL_figure 4 = .ok (.iload_n 2, 1) := by decide +kernel
theorem dL_figure_5 : decode cL_figure 5 = .ok (.invokevirtual 36, 3) := by decide +kernel
theorem dL_figure_8 : decode cL_figure 8 = .ok (.i2l, 1) := by decide +kernel
theorem dL_figure_9 : decode cL_figure 9 = .ok (.lastore, 1) := by decide +kernel
theorem dL_figure_10 : decode cL_figure 10 = .ok (.goto 7, 3) := by decide +kernel
theorem dL_figure_13 : decode cL_figure 13 = .ok (.astore 4, 2) := by decide +kernel
theorem dL_figure_15 : decode cL_figure 15 = .ok (.iconst 1, 1) := by decide +kernel
theorem dL_figure_16 : decode cL_figure 16 = .ok (.ireturn, 1) := by decide +kernel
theorem dL_figure_17 : decode cL_figure 17 = .ok (.iconst 0, 1) := by decide +kernel
theorem dL_figure_18 : decode cL_figure 18 = .ok (.ireturn, 1) := by decide +kernel
theorem dL_isUsed_0 : decode cL_isUsed 0 = .ok (.aload_n 3, 1) := by decide +kernel
theorem dL_isUsed_1 : decode cL_isUsed 1 = .ok (.iconst 0, 1) := by decide +kernel
theorem dL_isUsed_2 : decode cL_isUsed 2 = .ok (.aload_n 0, 1) := by decide +kernel
theorem dL_isUsed_3 : decode cL_isUsed 3 = .ok (.iload_n 1, 1) := by decide +kernel
theorem dL_isUsed_4 : decode cL_isUsed 4 = .ok (.iload_n 2, 1) := by decide +kernel
theorem dL_isUsed_5 : decode cL_isUsed 5 = .ok (.invokevirtual 39, 3) := by decide +kernel
theorem dL_isUsed_8 : decode cL_isUsed 8 = .ok (.ifCond .eq 7, 3) := by decide +kernel
theorem dL_isUsed_11 : decode cL_isUsed 11 = .ok (.lconst 1, 1) := by decide +kernel
theorem dL_isUsed_12 : decode cL_isUsed 12 = .ok (.goto 4, 3) := by decide +kernel
theorem dL_isUsed_15 : decode cL_isUsed 15 = .ok (.lconst 0, 1) := by decide +kernel
theorem dL_isUsed_16 : decode cL_isUsed 16 = .ok (.lastore, 1) := by decide +kernel
theorem dL_isUsed_17 : decode cL_isUsed 17 = .ok (.goto 7, 3) := by decide +kernel
theorem dL_isUsed_20 : decode cL_isUsed 20 = .ok (.astore 4, 2) := by decide +kernel
theorem dL_isUsed_22 : decode cL_isUsed 22 = .ok (.iconst 1, 1) := by decide +kernel
theorem dL_isUsed_23 : decode cL_isUsed 23 = .ok (.ireturn, 1) := by decide +kernel
theorem dL_isUsed_24 : decode cL_isUsed 24 = .ok (.iconst 0, 1) := by decide +kernel
theorem dL_isUsed_25 : decode cL_isUsed 25 = .ok (.ireturn, 1) := by decide +kernel
theorem dL_panel_0 : decode cL_panel 0 = .ok (.aload 5, 2) := by decide +kernel
theorem dL_panel_2 : decode cL_panel 2 = .ok (.iconst 0, 1) := by decide +kernel
theorem dL_panel_3 : decode cL_panel 3 = .ok (.aload_n 0, 1) := by decide +kernel
theorem dL_panel_4 : decode cL_panel 4 = .ok (.iload_n 1, 1) := by decide +kernel
theorem dL_panel_5 : decode cL_panel 5 = .ok (.iload_n 2, 1) := by decide +kernel
theorem dL_panel_6 : decode cL_panel 6 = .ok (.iload_n 3, 1) := by decide +kernel
theorem dL_panel_7 : decode cL_panel 7 = .ok (.iload 4, 2) := by decide +kernel
theorem dL_panel_9 : decode cL_panel 9 = .ok (.invokevirtual 43, 3) := by decide +kernel
theorem dL_panel_12 : decode cL_panel 12 = .ok (.i2l, 1) := by decide +kernel
theorem dL_panel_13 : decode cL_panel 13 = .ok (.lastore, 1) := by decide +kernel
theorem dL_panel_14 : decode cL_panel 14 = .ok (.goto 11, 3) := by decide +kernel
theorem dL_panel_17 : decode cL_panel 17 = .ok (.astore 6, 2) := by decide +kernel
theorem dL_panel_19 : decode cL_panel 19 = .ok (.iconst 1, 1) := by decide +kernel
theorem dL_panel_20 : decode cL_panel 20 = .ok (.ireturn, 1) := by decide +kernel
theorem dL_panel_21 : decode cL_panel 21 = .ok (.astore 6, 2) := by decide +kernel
theorem dL_panel_23 : decode cL_panel 23 = .ok (.iconst 2, 1) := by decide +kernel
theorem dL_panel_24 : decode cL_panel 24 = .ok (.ireturn, 1) := by decide +kernel
theorem dL_panel_25 : decode cL_panel 25 = .ok (.iconst 0, 1) := by decide +kernel
theorem dL_panel_26 : decode cL_panel 26 = .ok (.ireturn, 1) := by decide +kernel
theorem dL_face_0 : decode cL_face 0 = .ok (.aload 6, 2) := by decide +kernel
theorem dL_face_2 : decode cL_face 2 = .ok (.iconst 0, 1) := by decide +kernel
theorem dL_face_3 : decode cL_face 3 = .ok (.aload_n 0, 1) := by decide +kernel
theorem dL_face_4 : decode cL_face 4 = .ok (.iload_n 1, 1) := by decide +kernel
theorem dL_face_5 : decode cL_face 5 = .ok (.iload_n 2, 1) := by decide +kernel
theorem dL_face_6 : decode cL_face 6 = .ok (.iload_n 3, 1) := by decide +kernel
theorem dL_face_7 : decode cL_face 7 = .ok (.iload 4, 2) := by decide +kernel
theorem dL_face_9 : decode cL_face 9 = .ok (.iload 5, 2) := by decide +kernel
theorem dL_face_11 : decode cL_face 11 = .ok (.invokevirtual 47, 3) := by decide +kernel
theorem dL_face_14 : decode cL_face 14 = .ok (.i2l, 1) := by decide +kernel
theorem dL_face_15 : decode cL_face 15 = .ok (.lastore, 1) := by decide +kernel
theorem dL_face_16 : decode cL_face 16 = .ok (.goto 15, 3) := by decide +kernel
theorem dL_face_19 : decode cL_face 19 = .ok (.astore 7, 2) := by decide +kernel
theorem dL_face_21 : decode cL_face 21 = .ok (.iconst 1, 1) := by decide +kernel
theorem dL_face_22 : decode cL_face 22 = .ok (.ireturn, 1) := by decide +kernel
theorem dL_face_23 : decode cL_face 23 = .ok (.astore 7, 2) := by decide +kernel
theorem dL_face_25 : decode cL_face 25 = .ok (.iconst 2, 1) := by decide +kernel
theorem dL_face_26 : decode cL_face 26 = .ok (.ireturn, 1) := by decide +kernel
theorem dL_face_27 : decode cL_face 27 = .ok (.astore 7, 2) := by decide +kernel
theorem dL_face_29 : decode cL_face 29 = .ok (.iconst 3, 1) := by decide +kernel
theorem dL_face_30 : decode cL_face 30 = .ok (.ireturn, 1) := by decide +kernel
theorem dL_face_31 : decode cL_face 31 = .ok (.iconst 0, 1) := by decide +kernel
theorem dL_face_32 : decode cL_face 32 = .ok (.ireturn, 1) := by decide +kernel
theorem dL_back_0 : decode cL_back 0 = .ok (.aload 5, 2) := by decide +kernel
theorem dL_back_2 : decode cL_back 2 = .ok (.iconst 0, 1) := by decide +kernel
theorem dL_back_3 : decode cL_back 3 = .ok (.aload_n 0, 1) := by decide +kernel
theorem dL_back_4 : decode cL_back 4 = .ok (.iload_n 1, 1) := by decide +kernel
theorem dL_back_5 : decode cL_back 5 = .ok (.iload_n 2, 1) := by decide +kernel
theorem dL_back_6 : decode cL_back 6 = .ok (.iload_n 3, 1) := by decide +kernel
theorem dL_back_7 : decode cL_back 7 = .ok (.iload 4, 2) := by decide +kernel
theorem dL_back_9 : decode cL_back 9 = .ok (.invokevirtual 51, 3) := by decide +kernel
theorem dL_back_12 : decode cL_back 12 = .ok (.i2l, 1) := by decide +kernel
theorem dL_back_13 : decode cL_back 13 = .ok (.lastore, 1) := by decide +kernel
theorem dL_back_14 : decode cL_back 14 = .ok (.goto 15, 3) := by decide +kernel
theorem dL_back_17 : decode cL_back 17 = .ok (.astore 6, 2) := by decide +kernel
theorem dL_back_19 : decode cL_back 19 = .ok (.iconst 1, 1) := by decide +kernel
theorem dL_back_20 : decode cL_back 20 = .ok (.ireturn, 1) := by decide +kernel
theorem dL_back_21 : decode cL_back 21 = .ok (.astore 6, 2) := by decide +kernel
theorem dL_back_23 : decode cL_back 23 = .ok (.iconst 2, 1) := by decide +kernel
theorem dL_back_24 : decode cL_back 24 = .ok (.ireturn, 1) := by decide +kernel
theorem dL_back_25 : decode cL_back 25 = .ok (.astore 6, 2) := by decide +kernel
theorem dL_back_27 : decode cL_back 27 = .ok (.iconst 3, 1) := by decide +kernel
theorem dL_back_28 : decode cL_back 28 = .ok (.ireturn, 1) := by decide +kernel
theorem dL_back_29 : decode cL_back 29 = .ok (.iconst 0, 1) := by decide +kernel
theorem dL_back_30 : decode cL_back 30 = .ok (.ireturn, 1) := by decide +kernel
theorem dL_jump_0 : decode cL_jump 0 = .ok (.aload_n 2, 1) := by decide +kernel
theorem dL_jump_1 : decode cL_jump 1 = .ok (.iconst 0, 1) := by decide +kernel
theorem dL_jump_2 : decode cL_jump 2 = .ok (.aload_n 0, 1) := by decide +kernel
theorem dL_jump_3 : decode cL_jump 3 = .ok (.iload_n 1, 1) := by decide +kernel
theorem dL_jump_4 : decode cL_jump 4 = .ok (.invokevirtual 55, 3) := by decide +kernel
theorem dL_jump_7 : decode cL_jump 7 = .ok (.i2l, 1) := by decide +kernel
theorem dL_jump_8 : decode cL_jump 8 = .ok (.lastore, 1) := by decide +kernel
theorem dL_jump_9 : decode cL_jump 9 = .ok (.goto 9, 3) := by decide +kernel
theorem dL_jump_12 : decode cL_jump 12 = .ok (.astore_n 3, 1) := by decide +kernel
theorem dL_jump_13 : decode cL_jump 13 = .ok (.iconst 1, 1) := by decide +kernel
theorem dL_jump_14 : decode cL_jump 14 = .ok (.ireturn, 1) := by decide +kernel
theorem dL_jump_15 : decode cL_jump 15 = .ok (.astore_n 3, 1) := by decide +kernel
theorem dL_jump_16 : decode cL_jump 16 = .ok (.iconst 2, 1) := by decide +kernel
theorem dL_jump_17 : decode cL_jump 17 = .ok (.ireturn, 1) := by decide +kernel
theorem dL_jump_18 : decode cL_jump 18 = .ok (.iconst 0, 1) := by decide +kernel
theorem dL_jump_19 : decode cL_jump 19 = .ok (.ireturn, 1) := by decide +kernel
theorem dL_bestFirst_0 : decode cL_bestFirst 0 = .ok (.aload 5, 2) := by decide +kernel
theorem dL_bestFirst_2 : decode cL_bestFirst 2 = .ok (.iconst 0, 1) := by decide +kernel
theorem dL_bestFirst_3 : decode cL_bestFirst 3 = .ok (.aload_n 0, 1) := by decide +kernel
theorem dL_bestFirst_4 : decode cL_bestFirst 4 = .ok (.iload_n 1, 1) := by decide +kernel
theorem dL_bestFirst_5 : decode cL_bestFirst 5 = .ok (.iload_n 2, 1) := by decide +kernel
theorem dL_bestFirst_6 : decode cL_bestFirst 6 = .ok (.iload_n 3, 1) := by decide +kernel
theorem dL_bestFirst_7 : decode cL_bestFirst 7 = .ok (.iload 4, 2) := by decide +kernel
theorem dL_bestFirst_9 : decode cL_bestFirst 9 = .ok (.invokevirtual 60, 3) := by decide +kernel
theorem dL_bestFirst_12 : decode cL_bestFirst 12 = .ok (.i2l, 1) := by decide +kernel
theorem dL_bestFirst_13 : decode cL_bestFirst 13 = .ok (.lastore, 1) := by decide +kernel
theorem dL_bestFirst_14 : decode cL_bestFirst 14 = .ok (.goto 15, 3) := by decide +kernel
theorem dL_bestFirst_17 : decode cL_bestFirst 17 = .ok (.astore 6, 2) := by decide +kernel
theorem dL_bestFirst_19 : decode cL_bestFirst 19 = .ok (.iconst 1, 1) := by decide +kernel
theorem dL_bestFirst_20 : decode cL_bestFirst 20 = .ok (.ireturn, 1) := by decide +kernel
theorem dL_bestFirst_21 : decode cL_bestFirst 21 = .ok (.astore 6, 2) := by decide +kernel
theorem dL_bestFirst_23 : decode cL_bestFirst 23 = .ok (.iconst 2, 1) := by decide +kernel
theorem dL_bestFirst_24 : decode cL_bestFirst 24 = .ok (.ireturn, 1) := by decide +kernel
theorem dL_bestFirst_25 : decode cL_bestFirst 25 = .ok (.astore 6, 2) := by decide +kernel
theorem dL_bestFirst_27 : decode cL_bestFirst 27 = .ok (.iconst 3, 1) := by decide +kernel
theorem dL_bestFirst_28 : decode cL_bestFirst 28 = .ok (.ireturn, 1) := by decide +kernel
theorem dL_bestFirst_29 : decode cL_bestFirst 29 = .ok (.iconst 0, 1) := by decide +kernel
theorem dL_bestFirst_30 : decode cL_bestFirst 30 = .ok (.ireturn, 1) := by decide +kernel
theorem dL_press_0 : decode cL_press 0 = .ok (.aload 5, 2) := by decide +kernel
theorem dL_press_2 : decode cL_press 2 = .ok (.iconst 0, 1) := by decide +kernel
theorem dL_press_3 : decode cL_press 3 = .ok (.aload_n 0, 1) := by decide +kernel
theorem dL_press_4 : decode cL_press 4 = .ok (.iload_n 1, 1) := by decide +kernel
theorem dL_press_5 : decode cL_press 5 = .ok (.iload_n 2, 1) := by decide +kernel
theorem dL_press_6 : decode cL_press 6 = .ok (.iload_n 3, 1) := by decide +kernel
theorem dL_press_7 : decode cL_press 7 = .ok (.iload 4, 2) := by decide +kernel
theorem dL_press_9 : decode cL_press 9 = .ok (.invokevirtual 64, 3) := by decide +kernel
theorem dL_press_12 : decode cL_press 12 = .ok (.i2l, 1) := by decide +kernel
theorem dL_press_13 : decode cL_press 13 = .ok (.lastore, 1) := by decide +kernel
theorem dL_press_14 : decode cL_press 14 = .ok (.goto 15, 3) := by decide +kernel
theorem dL_press_17 : decode cL_press 17 = .ok (.astore 6, 2) := by decide +kernel
theorem dL_press_19 : decode cL_press 19 = .ok (.iconst 1, 1) := by decide +kernel
theorem dL_press_20 : decode cL_press 20 = .ok (.ireturn, 1) := by decide +kernel
theorem dL_press_21 : decode cL_press 21 = .ok (.astore 6, 2) := by decide +kernel
theorem dL_press_23 : decode cL_press 23 = .ok (.iconst 2, 1) := by decide +kernel
theorem dL_press_24 : decode cL_press 24 = .ok (.ireturn, 1) := by decide +kernel
theorem dL_press_25 : decode cL_press 25 = .ok (.astore 6, 2) := by decide +kernel
theorem dL_press_27 : decode cL_press 27 = .ok (.iconst 3, 1) := by decide +kernel
theorem dL_press_28 : decode cL_press 28 = .ok (.ireturn, 1) := by decide +kernel
theorem dL_press_29 : decode cL_press 29 = .ok (.iconst 0, 1) := by decide +kernel
theorem dL_press_30 : decode cL_press 30 = .ok (.ireturn, 1) := by decide +kernel
theorem dL_slit_0 : decode cL_slit 0 = .ok (.aload_n 2, 1) := by decide +kernel
theorem dL_slit_1 : decode cL_slit 1 = .ok (.iconst 0, 1) := by decide +kernel
theorem dL_slit_2 : decode cL_slit 2 = .ok (.aload_n 0, 1) := by decide +kernel
theorem dL_slit_3 : decode cL_slit 3 = .ok (.iload_n 1, 1) := by decide +kernel
theorem dL_slit_4 : decode cL_slit 4 = .ok (.invokevirtual 67, 3) := by decide +kernel
theorem dL_slit_7 : decode cL_slit 7 = .ok (.i2l, 1) := by decide +kernel
theorem dL_slit_8 : decode cL_slit 8 = .ok (.lastore, 1) := by decide +kernel
theorem dL_slit_9 : decode cL_slit 9 = .ok (.goto 9, 3) := by decide +kernel
theorem dL_slit_12 : decode cL_slit 12 = .ok (.astore_n 3, 1) := by decide +kernel
theorem dL_slit_13 : decode cL_slit 13 = .ok (.iconst 1, 1) := by decide +kernel
theorem dL_slit_14 : decode cL_slit 14 = .ok (.ireturn, 1) := by decide +kernel
theorem dL_slit_15 : decode cL_slit 15 = .ok (.astore_n 3, 1) := by decide +kernel
theorem dL_slit_16 : decode cL_slit 16 = .ok (.iconst 2, 1) := by decide +kernel
theorem dL_slit_17 : decode cL_slit 17 = .ok (.ireturn, 1) := by decide +kernel
theorem dL_slit_18 : decode cL_slit 18 = .ok (.iconst 0, 1) := by decide +kernel
theorem dL_slit_19 : decode cL_slit 19 = .ok (.ireturn, 1) := by decide +kernel
theorem dL_air_0 : decode cL_air 0 = .ok (.aload_n 2, 1) := by decide +kernel
theorem dL_air_1 : decode cL_air 1 = .ok (.iconst 0, 1) := by decide +kernel
theorem dL_air_2 : decode cL_air 2 = .ok (.aload_n 0, 1) := by decide +kernel
theorem dL_air_3 : decode cL_air 3 = .ok (.iload_n 1, 1) := by decide +kernel
theorem dL_air_4 : decode cL_air 4 = .ok (.invokevirtual 70, 3) := by decide +kernel
theorem dL_air_7 : decode cL_air 7 = .ok (.i2l, 1) := by decide +kernel
theorem dL_air_8 : decode cL_air 8 = .ok (.lastore, 1) := by decide +kernel
theorem dL_air_9 : decode cL_air 9 = .ok (.goto 6, 3) := by decide +kernel
theorem dL_air_12 : decode cL_air 12 = .ok (.astore_n 3, 1) := by decide +kernel
theorem dL_air_13 : decode cL_air 13 = .ok (.iconst 1, 1) := by decide +kernel
theorem dL_air_14 : decode cL_air 14 = .ok (.ireturn, 1) := by decide +kernel
theorem dL_air_15 : decode cL_air 15 = .ok (.iconst 0, 1) := by decide +kernel
theorem dL_air_16 : decode cL_air 16 = .ok (.ireturn, 1) := by decide +kernel
theorem dL_cup_0 : decode cL_cup 0 = .ok (.aload_n 3, 1) := by decide +kernel
theorem dL_cup_1 : decode cL_cup 1 = .ok (.iconst 0, 1) := by decide +kernel
theorem dL_cup_2 : decode cL_cup 2 = .ok (.aload_n 0, 1) := by decide +kernel
theorem dL_cup_3 : decode cL_cup 3 = .ok (.iload_n 1, 1) := by decide +kernel
theorem dL_cup_4 : decode cL_cup 4 = .ok (.iload_n 2, 1) := by decide +kernel
theorem dL_cup_5 : decode cL_cup 5 = .ok (.invokevirtual 73, 3) := by decide +kernel
theorem dL_cup_8 : decode cL_cup 8 = .ok (.i2l, 1) := by decide +kernel
theorem dL_cup_9 : decode cL_cup 9 = .ok (.lastore, 1) := by decide +kernel
theorem dL_cup_10 : decode cL_cup 10 = .ok (.goto 15, 3) := by decide +kernel
theorem dL_cup_13 : decode cL_cup 13 = .ok (.astore 4, 2) := by decide +kernel
theorem dL_cup_15 : decode cL_cup 15 = .ok (.iconst 1, 1) := by decide +kernel
theorem dL_cup_16 : decode cL_cup 16 = .ok (.ireturn, 1) := by decide +kernel
theorem dL_cup_17 : decode cL_cup 17 = .ok (.astore 4, 2) := by decide +kernel
theorem dL_cup_19 : decode cL_cup 19 = .ok (.iconst 2, 1) := by decide +kernel
theorem dL_cup_20 : decode cL_cup 20 = .ok (.ireturn, 1) := by decide +kernel
theorem dL_cup_21 : decode cL_cup 21 = .ok (.astore 4, 2) := by decide +kernel
theorem dL_cup_23 : decode cL_cup 23 = .ok (.iconst 3, 1) := by decide +kernel
theorem dL_cup_24 : decode cL_cup 24 = .ok (.ireturn, 1) := by decide +kernel
theorem dL_cup_25 : decode cL_cup 25 = .ok (.iconst 0, 1) := by decide +kernel
theorem dL_cup_26 : decode cL_cup 26 = .ok (.ireturn, 1) := by decide +kernel
theorem dL_isFlat_0 : decode cL_isFlat 0 = .ok (.aload_n 2, 1) := by decide +kernel
theorem dL_isFlat_1 : decode cL_isFlat 1 = .ok (.iconst 0, 1) := by decide +kernel
theorem dL_isFlat_2 : decode cL_isFlat 2 = .ok (.aload_n 0, 1) := by decide +kernel
theorem dL_isFlat_3 : decode cL_isFlat 3 = .ok (.iload_n 1, 1) := by decide +kernel
theorem dL_isFlat_4 : decode cL_isFlat 4 = .ok (.invokevirtual 76, 3) := by decide +kernel
theorem dL_isFlat_7 : decode cL_isFlat 7 = .ok (.ifCond .eq 7, 3) := by decide +kernel
theorem dL_isFlat_10 : decode cL_isFlat 10 = .ok (.lconst 1, 1) := by decide +kernel
theorem dL_isFlat_11 : decode cL_isFlat 11 = .ok (.goto 4, 3) := by decide +kernel
theorem dL_isFlat_14 : decode cL_isFlat 14 = .ok (.lconst 0, 1) := by decide +kernel
theorem dL_isFlat_15 : decode cL_isFlat 15 = .ok (.lastore, 1) := by decide +kernel
theorem dL_isFlat_16 : decode cL_isFlat 16 = .ok (.goto 9, 3) := by decide +kernel
theorem dL_isFlat_19 : decode cL_isFlat 19 = .ok (.astore_n 3, 1) := by decide +kernel
theorem dL_isFlat_20 : decode cL_isFlat 20 = .ok (.iconst 1, 1) := by decide +kernel
theorem dL_isFlat_21 : decode cL_isFlat 21 = .ok (.ireturn, 1) := by decide +kernel
theorem dL_isFlat_22 : decode cL_isFlat 22 = .ok (.astore_n 3, 1) := by decide +kernel
theorem dL_isFlat_23 : decode cL_isFlat 23 = .ok (.iconst 2, 1) := by decide +kernel
theorem dL_isFlat_24 : decode cL_isFlat 24 = .ok (.ireturn, 1) := by decide +kernel
theorem dL_isFlat_25 : decode cL_isFlat 25 = .ok (.iconst 0, 1) := by decide +kernel
theorem dL_isFlat_26 : decode cL_isFlat 26 = .ok (.ireturn, 1) := by decide +kernel
theorem dL_cupMonth_0 : decode cL_cupMonth 0 = .ok (.aload_n 2, 1) := by decide +kernel
theorem dL_cupMonth_1 : decode cL_cupMonth 1 = .ok (.iconst 0, 1) := by decide +kernel
theorem dL_cupMonth_2 : decode cL_cupMonth 2 = .ok (.aload_n 0, 1) := by decide +kernel
theorem dL_cupMonth_3 : decode cL_cupMonth 3 = .ok (.iload_n 1, 1) := by decide +kernel
theorem dL_cupMonth_4 : decode cL_cupMonth 4 = .ok (.invokevirtual 80, 3) := by decide +kernel
theorem dL_cupMonth_7 : decode cL_cupMonth 7 = .ok (.i2l, 1) := by decide +kernel
theorem dL_cupMonth_8 : decode cL_cupMonth 8 = .ok (.lastore, 1) := by decide +kernel
theorem dL_cupMonth_9 : decode cL_cupMonth 9 = .ok (.goto 12, 3) := by decide +kernel
theorem dL_cupMonth_12 : decode cL_cupMonth 12 = .ok (.astore_n 3, 1) := by decide +kernel
theorem dL_cupMonth_13 : decode cL_cupMonth 13 = .ok (.iconst 1, 1) := by decide +kernel
theorem dL_cupMonth_14 : decode cL_cupMonth 14 = .ok (.ireturn, 1) := by decide +kernel
theorem dL_cupMonth_15 : decode cL_cupMonth 15 = .ok (.astore_n 3, 1) := by decide +kernel
theorem dL_cupMonth_16 : decode cL_cupMonth 16 = .ok (.iconst 2, 1) := by decide +kernel
theorem dL_cupMonth_17 : decode cL_cupMonth 17 = .ok (.ireturn, 1) := by decide +kernel
theorem dL_cupMonth_18 : decode cL_cupMonth 18 = .ok (.astore_n 3, 1) := by decide +kernel
theorem dL_cupMonth_19 : decode cL_cupMonth 19 = .ok (.iconst 3, 1) := by decide +kernel
theorem dL_cupMonth_20 : decode cL_cupMonth 20 = .ok (.ireturn, 1) := by decide +kernel
theorem dL_cupMonth_21 : decode cL_cupMonth 21 = .ok (.iconst 0, 1) := by decide +kernel
theorem dL_cupMonth_22 : decode cL_cupMonth 22 = .ok (.ireturn, 1) := by decide +kernel
theorem dL_scrape_0 : decode cL_scrape 0 = .ok (.aload_n 3, 1) := by decide +kernel
theorem dL_scrape_1 : decode cL_scrape 1 = .ok (.iconst 0, 1) := by decide +kernel
theorem dL_scrape_2 : decode cL_scrape 2 = .ok (.aload_n 0, 1) := by decide +kernel
theorem dL_scrape_3 : decode cL_scrape 3 = .ok (.iload_n 1, 1) := by decide +kernel
theorem dL_scrape_4 : decode cL_scrape 4 = .ok (.iload_n 2, 1) := by decide +kernel
theorem dL_scrape_5 : decode cL_scrape 5 = .ok (.invokevirtual 83, 3) := by decide +kernel
theorem dL_scrape_8 : decode cL_scrape 8 = .ok (.i2l, 1) := by decide +kernel
theorem dL_scrape_9 : decode cL_scrape 9 = .ok (.lastore, 1) := by decide +kernel
theorem dL_scrape_10 : decode cL_scrape 10 = .ok (.goto 15, 3) := by decide +kernel
theorem dL_scrape_13 : decode cL_scrape 13 = .ok (.astore 4, 2) := by decide +kernel
theorem dL_scrape_15 : decode cL_scrape 15 = .ok (.iconst 1, 1) := by decide +kernel
theorem dL_scrape_16 : decode cL_scrape 16 = .ok (.ireturn, 1) := by decide +kernel
theorem dL_scrape_17 : decode cL_scrape 17 = .ok (.astore 4, 2) := by decide +kernel
theorem dL_scrape_19 : decode cL_scrape 19 = .ok (.iconst 2, 1) := by decide +kernel
theorem dL_scrape_20 : decode cL_scrape 20 = .ok (.ireturn, 1) := by decide +kernel
theorem dL_scrape_21 : decode cL_scrape 21 = .ok (.astore 4, 2) := by decide +kernel
theorem dL_scrape_23 : decode cL_scrape 23 = .ok (.iconst 3, 1) := by decide +kernel
theorem dL_scrape_24 : decode cL_scrape 24 = .ok (.ireturn, 1) := by decide +kernel
theorem dL_scrape_25 : decode cL_scrape 25 = .ok (.iconst 0, 1) := by decide +kernel
theorem dL_scrape_26 : decode cL_scrape 26 = .ok (.ireturn, 1) := by decide +kernel
theorem dL_isThrough_0 : decode cL_isThrough 0 = .ok (.aload_n 2, 1) := by decide +kernel
theorem dL_isThrough_1 : decode cL_isThrough 1 = .ok (.iconst 0, 1) := by decide +kernel
theorem dL_isThrough_2 : decode cL_isThrough 2 = .ok (.aload_n 0, 1) := by decide +kernel
theorem dL_isThrough_3 : decode cL_isThrough 3 = .ok (.iload_n 1, 1) := by decide +kernel
theorem dL_isThrough_4 : decode cL_isThrough 4 = .ok (.invokevirtual 86, 3) := by decide +kernel
theorem dL_isThrough_7 : decode cL_isThrough 7 = .ok (.ifCond .eq 7, 3) := by decide +kernel
theorem dL_isThrough_10 : decode cL_isThrough 10 = .ok (.lconst 1, 1) := by decide +kernel
theorem dL_isThrough_11 : decode cL_isThrough 11 = .ok (.goto 4, 3) := by decide +kernel
theorem dL_isThrough_14 : decode cL_isThrough 14 = .ok (.lconst 0, 1) := by decide +kernel
theorem dL_isThrough_15 : decode cL_isThrough 15 = .ok (.lastore, 1) := by decide +kernel
theorem dL_isThrough_16 : decode cL_isThrough 16 = .ok (.goto 6, 3) := by decide +kernel
theorem dL_isThrough_19 : decode cL_isThrough 19 = .ok (.astore_n 3, 1) := by decide +kernel
theorem dL_isThrough_20 : decode cL_isThrough 20 = .ok (.iconst 1, 1) := by decide +kernel
theorem dL_isThrough_21 : decode cL_isThrough 21 = .ok (.ireturn, 1) := by decide +kernel
theorem dL_isThrough_22 : decode cL_isThrough 22 = .ok (.iconst 0, 1) := by decide +kernel
theorem dL_isThrough_23 : decode cL_isThrough 23 = .ok (.ireturn, 1) := by decide +kernel
theorem dL_pad_0 : decode cL_pad 0 = .ok (.aload_n 3, 1) := by decide +kernel
theorem dL_pad_1 : decode cL_pad 1 = .ok (.iconst 0, 1) := by decide +kernel
theorem dL_pad_2 : decode cL_pad 2 = .ok (.aload_n 0, 1) := by decide +kernel
theorem dL_pad_3 : decode cL_pad 3 = .ok (.iload_n 1, 1) := by decide +kernel
theorem dL_pad_4 : decode cL_pad 4 = .ok (.iload_n 2, 1) := by decide +kernel
theorem dL_pad_5 : decode cL_pad 5 = .ok (.invokevirtual 89, 3) := by decide +kernel
theorem dL_pad_8 : decode cL_pad 8 = .ok (.i2l, 1) := by decide +kernel
theorem dL_pad_9 : decode cL_pad 9 = .ok (.lastore, 1) := by decide +kernel
theorem dL_pad_10 : decode cL_pad 10 = .ok (.goto 15, 3) := by decide +kernel
theorem dL_pad_13 : decode cL_pad 13 = .ok (.astore 4, 2) := by decide +kernel
theorem dL_pad_15 : decode cL_pad 15 = .ok (.iconst 1, 1) := by decide +kernel
theorem dL_pad_16 : decode cL_pad 16 = .ok (.ireturn, 1) := by decide +kernel
theorem dL_pad_17 : decode cL_pad 17 = .ok (.astore 4, 2) := by decide +kernel
theorem dL_pad_19 : decode cL_pad 19 = .ok (.iconst 2, 1) := by decide +kernel
theorem dL_pad_20 : decode cL_pad 20 = .ok (.ireturn, 1) := by decide +kernel
theorem dL_pad_21 : decode cL_pad 21 = .ok (.astore 4, 2) := by decide +kernel
theorem dL_pad_23 : decode cL_pad 23 = .ok (.iconst 3, 1) := by decide +kernel
theorem dL_pad_24 : decode cL_pad 24 = .ok (.ireturn, 1) := by decide +kernel
theorem dL_pad_25 : decode cL_pad 25 = .ok (.iconst 0, 1) := by decide +kernel
theorem dL_pad_26 : decode cL_pad 26 = .ok (.ireturn, 1) := by decide +kernel
theorem dL_ghosts_0 : decode cL_ghosts 0 = .ok (.aload_n 2, 1) := by decide +kernel
theorem dL_ghosts_1 : decode cL_ghosts 1 = .ok (.iconst 0, 1) := by decide +kernel
theorem dL_ghosts_2 : decode cL_ghosts 2 = .ok (.aload_n 0, 1) := by decide +kernel
theorem dL_ghosts_3 : decode cL_ghosts 3 = .ok (.iload_n 1, 1) := by decide +kernel
theorem dL_ghosts_4 : decode cL_ghosts 4 = .ok (.invokevirtual 92, 3) := by decide +kernel
theorem dL_ghosts_7 : decode cL_ghosts 7 = .ok (.i2l, 1) := by decide +kernel
theorem dL_ghosts_8 : decode cL_ghosts 8 = .ok (.lastore, 1) := by decide +kernel
theorem dL_ghosts_9 : decode cL_ghosts 9 = .ok (.goto 6, 3) := by decide +kernel
theorem dL_ghosts_12 : decode cL_ghosts 12 = .ok (.astore_n 3, 1) := by decide +kernel
theorem dL_ghosts_13 : decode cL_ghosts 13 = .ok (.iconst 1, 1) := by decide +kernel
theorem dL_ghosts_14 : decode cL_ghosts 14 = .ok (.ireturn, 1) := by decide +kernel
theorem dL_ghosts_15 : decode cL_ghosts 15 = .ok (.iconst 0, 1) := by decide +kernel
theorem dL_ghosts_16 : decode cL_ghosts 16 = .ok (.ireturn, 1) := by decide +kernel
theorem dL_picture_0 : decode cL_picture 0 = .ok (.aload_n 1, 1) := by decide +kernel
theorem dL_picture_1 : decode cL_picture 1 = .ok (.iconst 0, 1) := by decide +kernel
theorem dL_picture_2 : decode cL_picture 2 = .ok (.aload_n 0, 1) := by decide +kernel
theorem dL_picture_3 : decode cL_picture 3 = .ok (.invokevirtual 95, 3) := by decide +kernel
theorem dL_picture_6 : decode cL_picture 6 = .ok (.i2l, 1) := by decide +kernel
theorem dL_picture_7 : decode cL_picture 7 = .ok (.lastore, 1) := by decide +kernel
theorem dL_picture_8 : decode cL_picture 8 = .ok (.goto 6, 3) := by decide +kernel
theorem dL_picture_11 : decode cL_picture 11 = .ok (.astore_n 2, 1) := by decide +kernel
theorem dL_picture_12 : decode cL_picture 12 = .ok (.iconst 1, 1) := by decide +kernel
theorem dL_picture_13 : decode cL_picture 13 = .ok (.ireturn, 1) := by decide +kernel
theorem dL_picture_14 : decode cL_picture 14 = .ok (.iconst 0, 1) := by decide +kernel
theorem dL_picture_15 : decode cL_picture 15 = .ok (.ireturn, 1) := by decide +kernel
theorem dL_draw_0 : decode cL_draw 0 = .ok (.aload 6, 2) := by decide +kernel
theorem dL_draw_2 : decode cL_draw 2 = .ok (.iconst 0, 1) := by decide +kernel
theorem dL_draw_3 : decode cL_draw 3 = .ok (.aload_n 0, 1) := by decide +kernel
theorem dL_draw_4 : decode cL_draw 4 = .ok (.iload_n 1, 1) := by decide +kernel
theorem dL_draw_5 : decode cL_draw 5 = .ok (.iload_n 2, 1) := by decide +kernel
theorem dL_draw_6 : decode cL_draw 6 = .ok (.iload_n 3, 1) := by decide +kernel
theorem dL_draw_7 : decode cL_draw 7 = .ok (.iload 4, 2) := by decide +kernel
theorem dL_draw_9 : decode cL_draw 9 = .ok (.iload 5, 2) := by decide +kernel
theorem dL_draw_11 : decode cL_draw 11 = .ok (.invokevirtual 99, 3) := by decide +kernel
theorem dL_draw_14 : decode cL_draw 14 = .ok (.i2l, 1) := by decide +kernel
theorem dL_draw_15 : decode cL_draw 15 = .ok (.lastore, 1) := by decide +kernel
theorem dL_draw_16 : decode cL_draw 16 = .ok (.goto 15, 3) := by decide +kernel
theorem dL_draw_19 : decode cL_draw 19 = .ok (.astore 7, 2) := by decide +kernel
theorem dL_draw_21 : decode cL_draw 21 = .ok (.iconst 1, 1) := by decide +kernel
theorem dL_draw_22 : decode cL_draw 22 = .ok (.ireturn, 1) := by decide +kernel
theorem dL_draw_23 : decode cL_draw 23 = .ok (.astore 7, 2) := by decide +kernel
theorem dL_draw_25 : decode cL_draw 25 = .ok (.iconst 2, 1) := by decide +kernel
theorem dL_draw_26 : decode cL_draw 26 = .ok (.ireturn, 1) := by decide +kernel
theorem dL_draw_27 : decode cL_draw 27 = .ok (.astore 7, 2) := by decide +kernel
theorem dL_draw_29 : decode cL_draw 29 = .ok (.iconst 3, 1) := by decide +kernel
theorem dL_draw_30 : decode cL_draw 30 = .ok (.ireturn, 1) := by decide +kernel
theorem dL_draw_31 : decode cL_draw 31 = .ok (.iconst 0, 1) := by decide +kernel
theorem dL_draw_32 : decode cL_draw 32 = .ok (.ireturn, 1) := by decide +kernel
theorem dL_fieldAt_0 : decode cL_fieldAt 0 = .ok (.aload 4, 2) := by decide +kernel
theorem dL_fieldAt_2 : decode cL_fieldAt 2 = .ok (.iconst 0, 1) := by decide +kernel
theorem dL_fieldAt_3 : decode cL_fieldAt 3 = .ok (.aload_n 0, 1) := by decide +kernel
theorem dL_fieldAt_4 : decode cL_fieldAt 4 = .ok (.iload_n 1, 1) := by decide +kernel
theorem dL_fieldAt_5 : decode cL_fieldAt 5 = .ok (.iload_n 2, 1) := by decide +kernel
theorem dL_fieldAt_6 : decode cL_fieldAt 6 = .ok (.iload_n 3, 1) := by decide +kernel
theorem dL_fieldAt_7 : decode cL_fieldAt 7 = .ok (.invokevirtual 102, 3) := by decide +kernel
theorem dL_fieldAt_10 : decode cL_fieldAt 10 = .ok (.i2l, 1) := by decide +kernel
theorem dL_fieldAt_11 : decode cL_fieldAt 11 = .ok (.lastore, 1) := by decide +kernel
theorem dL_fieldAt_12 : decode cL_fieldAt 12 = .ok (.goto 7, 3) := by decide +kernel
theorem dL_fieldAt_15 : decode cL_fieldAt 15 = .ok (.astore 5, 2) := by decide +kernel
theorem dL_fieldAt_17 : decode cL_fieldAt 17 = .ok (.iconst 1, 1) := by decide +kernel
theorem dL_fieldAt_18 : decode cL_fieldAt 18 = .ok (.ireturn, 1) := by decide +kernel
theorem dL_fieldAt_19 : decode cL_fieldAt 19 = .ok (.iconst 0, 1) := by decide +kernel
theorem dL_fieldAt_20 : decode cL_fieldAt 20 = .ok (.ireturn, 1) := by decide +kernel
theorem dL_pieces_0 : decode cL_pieces 0 = .ok (.aload_n 2, 1) := by decide +kernel
theorem dL_pieces_1 : decode cL_pieces 1 = .ok (.iconst 0, 1) := by decide +kernel
theorem dL_pieces_2 : decode cL_pieces 2 = .ok (.aload_n 0, 1) := by decide +kernel
theorem dL_pieces_3 : decode cL_pieces 3 = .ok (.iload_n 1, 1) := by decide +kernel
theorem dL_pieces_4 : decode cL_pieces 4 = .ok (.invokevirtual 106, 3) := by decide +kernel
theorem dL_pieces_7 : decode cL_pieces 7 = .ok (.i2l, 1) := by decide +kernel
theorem dL_pieces_8 : decode cL_pieces 8 = .ok (.lastore, 1) := by decide +kernel
theorem dL_pieces_9 : decode cL_pieces 9 = .ok (.goto 6, 3) := by decide +kernel
theorem dL_pieces_12 : decode cL_pieces 12 = .ok (.astore_n 3, 1) := by decide +kernel
theorem dL_pieces_13 : decode cL_pieces 13 = .ok (.iconst 1, 1) := by decide +kernel
theorem dL_pieces_14 : decode cL_pieces 14 = .ok (.ireturn, 1) := by decide +kernel
theorem dL_pieces_15 : decode cL_pieces 15 = .ok (.iconst 0, 1) := by decide +kernel
theorem dL_pieces_16 : decode cL_pieces 16 = .ok (.ireturn, 1) := by decide +kernel
theorem dL_islands_0 : decode cL_islands 0 = .ok (.aload_n 2, 1) := by decide +kernel
theorem dL_islands_1 : decode cL_islands 1 = .ok (.iconst 0, 1) := by decide +kernel
theorem dL_islands_2 : decode cL_islands 2 = .ok (.aload_n 0, 1) := by decide +kernel
theorem dL_islands_3 : decode cL_islands 3 = .ok (.iload_n 1, 1) := by decide +kernel
theorem dL_islands_4 : decode cL_islands 4 = .ok (.invokevirtual 109, 3) := by decide +kernel
theorem dL_islands_7 : decode cL_islands 7 = .ok (.i2l, 1) := by decide +kernel
theorem dL_islands_8 : decode cL_islands 8 = .ok (.lastore, 1) := by decide +kernel
theorem dL_islands_9 : decode cL_islands 9 = .ok (.goto 6, 3) := by decide +kernel
theorem dL_islands_12 : decode cL_islands 12 = .ok (.astore_n 3, 1) := by decide +kernel
theorem dL_islands_13 : decode cL_islands 13 = .ok (.iconst 1, 1) := by decide +kernel
theorem dL_islands_14 : decode cL_islands 14 = .ok (.ireturn, 1) := by decide +kernel
theorem dL_islands_15 : decode cL_islands 15 = .ok (.iconst 0, 1) := by decide +kernel
theorem dL_islands_16 : decode cL_islands 16 = .ok (.ireturn, 1) := by decide +kernel
theorem dL_saw_0 : decode cL_saw 0 = .ok (.aload 5, 2) := by decide +kernel
theorem dL_saw_2 : decode cL_saw 2 = .ok (.iconst 0, 1) := by decide +kernel
theorem dL_saw_3 : decode cL_saw 3 = .ok (.aload_n 0, 1) := by decide +kernel
theorem dL_saw_4 : decode cL_saw 4 = .ok (.iload_n 1, 1) := by decide +kernel
theorem dL_saw_5 : decode cL_saw 5 = .ok (.iload_n 2, 1) := by decide +kernel
theorem dL_saw_6 : decode cL_saw 6 = .ok (.iload_n 3, 1) := by decide +kernel
theorem dL_saw_7 : decode cL_saw 7 = .ok (.iload 4, 2) := by decide +kernel
theorem dL_saw_9 : decode cL_saw 9 = .ok (.invokevirtual 112, 3) := by decide +kernel
theorem dL_saw_12 : decode cL_saw 12 = .ok (.i2l, 1) := by decide +kernel
theorem dL_saw_13 : decode cL_saw 13 = .ok (.lastore, 1) := by decide +kernel
theorem dL_saw_14 : decode cL_saw 14 = .ok (.goto 15, 3) := by decide +kernel
theorem dL_saw_17 : decode cL_saw 17 = .ok (.astore 6, 2) := by decide +kernel
theorem dL_saw_19 : decode cL_saw 19 = .ok (.iconst 1, 1) := by decide +kernel
theorem dL_saw_20 : decode cL_saw 20 = .ok (.ireturn, 1) := by decide +kernel
theorem dL_saw_21 : decode cL_saw 21 = .ok (.astore 6, 2) := by decide +kernel
theorem dL_saw_23 : decode cL_saw 23 = .ok (.iconst 2, 1) := by decide +kernel
theorem dL_saw_24 : decode cL_saw 24 = .ok (.ireturn, 1) := by decide +kernel
theorem dL_saw_25 : decode cL_saw 25 = .ok (.astore 6, 2) := by decide +kernel
theorem dL_saw_27 : decode cL_saw 27 = .ok (.iconst 3, 1) := by decide +kernel
theorem dL_saw_28 : decode cL_saw 28 = .ok (.ireturn, 1) := by decide +kernel
theorem dL_saw_29 : decode cL_saw 29 = .ok (.iconst 0, 1) := by decide +kernel
theorem dL_saw_30 : decode cL_saw 30 = .ok (.ireturn, 1) := by decide +kernel
theorem dL_leafAt_0 : decode cL_leafAt 0 = .ok (.aload 5, 2) := by decide +kernel
theorem dL_leafAt_2 : decode cL_leafAt 2 = .ok (.iconst 0, 1) := by decide +kernel
theorem dL_leafAt_3 : decode cL_leafAt 3 = .ok (.aload_n 0, 1) := by decide +kernel
theorem dL_leafAt_4 : decode cL_leafAt 4 = .ok (.iload_n 1, 1) := by decide +kernel
theorem dL_leafAt_5 : decode cL_leafAt 5 = .ok (.iload_n 2, 1) := by decide +kernel
theorem dL_leafAt_6 : decode cL_leafAt 6 = .ok (.iload_n 3, 1) := by decide +kernel
theorem dL_leafAt_7 : decode cL_leafAt 7 = .ok (.iload 4, 2) := by decide +kernel
theorem dL_leafAt_9 : decode cL_leafAt 9 = .ok (.invokevirtual 115, 3) := by decide +kernel
theorem dL_leafAt_12 : decode cL_leafAt 12 = .ok (.i2l, 1) := by decide +kernel
theorem dL_leafAt_13 : decode cL_leafAt 13 = .ok (.lastore, 1) := by decide +kernel
theorem dL_leafAt_14 : decode cL_leafAt 14 = .ok (.goto 11, 3) := by decide +kernel
theorem dL_leafAt_17 : decode cL_leafAt 17 = .ok (.astore 6, 2) := by decide +kernel
theorem dL_leafAt_19 : decode cL_leafAt 19 = .ok (.iconst 1, 1) := by decide +kernel
theorem dL_leafAt_20 : decode cL_leafAt 20 = .ok (.ireturn, 1) := by decide +kernel
theorem dL_leafAt_21 : decode cL_leafAt 21 = .ok (.astore 6, 2) := by decide +kernel
theorem dL_leafAt_23 : decode cL_leafAt 23 = .ok (.iconst 2, 1) := by decide +kernel
theorem dL_leafAt_24 : decode cL_leafAt 24 = .ok (.ireturn, 1) := by decide +kernel
theorem dL_leafAt_25 : decode cL_leafAt 25 = .ok (.iconst 0, 1) := by decide +kernel
theorem dL_leafAt_26 : decode cL_leafAt 26 = .ok (.ireturn, 1) := by decide +kernel
theorem dL_contrast_0 : decode cL_contrast 0 = .ok (.aload_n 3, 1) := by decide +kernel
theorem dL_contrast_1 : decode cL_contrast 1 = .ok (.iconst 0, 1) := by decide +kernel
theorem dL_contrast_2 : decode cL_contrast 2 = .ok (.aload_n 0, 1) := by decide +kernel
theorem dL_contrast_3 : decode cL_contrast 3 = .ok (.iload_n 1, 1) := by decide +kernel
theorem dL_contrast_4 : decode cL_contrast 4 = .ok (.iload_n 2, 1) := by decide +kernel
theorem dL_contrast_5 : decode cL_contrast 5 = .ok (.invokevirtual 118, 3) := by decide +kernel
theorem dL_contrast_8 : decode cL_contrast 8 = .ok (.i2l, 1) := by decide +kernel
theorem dL_contrast_9 : decode cL_contrast 9 = .ok (.lastore, 1) := by decide +kernel
theorem dL_contrast_10 : decode cL_contrast 10 = .ok (.goto 11, 3) := by decide +kernel
theorem dL_contrast_13 : decode cL_contrast 13 = .ok (.astore 4, 2) := by decide +kernel
theorem dL_contrast_15 : decode cL_contrast 15 = .ok (.iconst 1, 1) := by decide +kernel
theorem dL_contrast_16 : decode cL_contrast 16 = .ok (.ireturn, 1) := by decide +kernel
theorem dL_contrast_17 : decode cL_contrast 17 = .ok (.astore 4, 2) := by decide +kernel
theorem dL_contrast_19 : decode cL_contrast 19 = .ok (.iconst 2, 1) := by decide +kernel
theorem dL_contrast_20 : decode cL_contrast 20 = .ok (.ireturn, 1) := by decide +kernel
theorem dL_contrast_21 : decode cL_contrast 21 = .ok (.iconst 0, 1) := by decide +kernel
theorem dL_contrast_22 : decode cL_contrast 22 = .ok (.ireturn, 1) := by decide +kernel
theorem dL_sand_0 : decode cL_sand 0 = .ok (.aload 5, 2) := by decide +kernel
theorem dL_sand_2 : decode cL_sand 2 = .ok (.iconst 0, 1) := by decide +kernel
theorem dL_sand_3 : decode cL_sand 3 = .ok (.aload_n 0, 1) := by decide +kernel
theorem dL_sand_4 : decode cL_sand 4 = .ok (.iload_n 1, 1) := by decide +kernel
theorem dL_sand_5 : decode cL_sand 5 = .ok (.iload_n 2, 1) := by decide +kernel
theorem dL_sand_6 : decode cL_sand 6 = .ok (.iload_n 3, 1) := by decide +kernel
theorem dL_sand_7 : decode cL_sand 7 = .ok (.iload 4, 2) := by decide +kernel
theorem dL_sand_9 : decode cL_sand 9 = .ok (.invokevirtual 121, 3) := by decide +kernel
theorem dL_sand_12 : decode cL_sand 12 = .ok (.i2l, 1) := by decide +kernel
theorem dL_sand_13 : decode cL_sand 13 = .ok (.lastore, 1) := by decide +kernel
theorem dL_sand_14 : decode cL_sand 14 = .ok (.goto 15, 3) := by decide +kernel
theorem dL_sand_17 : decode cL_sand 17 = .ok (.astore 6, 2) := by decide +kernel
theorem dL_sand_19 : decode cL_sand 19 = .ok (.iconst 1, 1) := by decide +kernel
theorem dL_sand_20 : decode cL_sand 20 = .ok (.ireturn, 1) := by decide +kernel
theorem dL_sand_21 : decode cL_sand 21 = .ok (.astore 6, 2) := by decide +kernel
theorem dL_sand_23 : decode cL_sand 23 = .ok (.iconst 2, 1) := by decide +kernel
theorem dL_sand_24 : decode cL_sand 24 = .ok (.ireturn, 1) := by decide +kernel
theorem dL_sand_25 : decode cL_sand 25 = .ok (.astore 6, 2) := by decide +kernel
theorem dL_sand_27 : decode cL_sand 27 = .ok (.iconst 3, 1) := by decide +kernel
theorem dL_sand_28 : decode cL_sand 28 = .ok (.ireturn, 1) := by decide +kernel
theorem dL_sand_29 : decode cL_sand 29 = .ok (.iconst 0, 1) := by decide +kernel
theorem dL_sand_30 : decode cL_sand 30 = .ok (.ireturn, 1) := by decide +kernel
theorem dL_burnt_0 : decode cL_burnt 0 = .ok (.aload_n 2, 1) := by decide +kernel
theorem dL_burnt_1 : decode cL_burnt 1 = .ok (.iconst 0, 1) := by decide +kernel
theorem dL_burnt_2 : decode cL_burnt 2 = .ok (.aload_n 0, 1) := by decide +kernel
theorem dL_burnt_3 : decode cL_burnt 3 = .ok (.iload_n 1, 1) := by decide +kernel
theorem dL_burnt_4 : decode cL_burnt 4 = .ok (.invokevirtual 125, 3) := by decide +kernel
theorem dL_burnt_7 : decode cL_burnt 7 = .ok (.i2l, 1) := by decide +kernel
theorem dL_burnt_8 : decode cL_burnt 8 = .ok (.lastore, 1) := by decide +kernel
theorem dL_burnt_9 : decode cL_burnt 9 = .ok (.goto 6, 3) := by decide +kernel
theorem dL_burnt_12 : decode cL_burnt 12 = .ok (.astore_n 3, 1) := by decide +kernel
theorem dL_burnt_13 : decode cL_burnt 13 = .ok (.iconst 1, 1) := by decide +kernel
theorem dL_burnt_14 : decode cL_burnt 14 = .ok (.ireturn, 1) := by decide +kernel
theorem dL_burnt_15 : decode cL_burnt 15 = .ok (.iconst 0, 1) := by decide +kernel
theorem dL_burnt_16 : decode cL_burnt 16 = .ok (.ireturn, 1) := by decide +kernel
theorem dL_gap_0 : decode cL_gap 0 = .ok (.aload 4, 2) := by decide +kernel
theorem dL_gap_2 : decode cL_gap 2 = .ok (.iconst 0, 1) := by decide +kernel
theorem dL_gap_3 : decode cL_gap 3 = .ok (.aload_n 0, 1) := by decide +kernel
theorem dL_gap_4 : decode cL_gap 4 = .ok (.iload_n 1, 1) := by decide +kernel
theorem dL_gap_5 : decode cL_gap 5 = .ok (.iload_n 2, 1) := by decide +kernel
theorem dL_gap_6 : decode cL_gap 6 = .ok (.iload_n 3, 1) := by decide +kernel
theorem dL_gap_7 : decode cL_gap 7 = .ok (.invokevirtual 128, 3) := by decide +kernel
theorem dL_gap_10 : decode cL_gap 10 = .ok (.i2l, 1) := by decide +kernel
theorem dL_gap_11 : decode cL_gap 11 = .ok (.lastore, 1) := by decide +kernel
theorem dL_gap_12 : decode cL_gap 12 = .ok (.goto 7, 3) := by decide +kernel
theorem dL_gap_15 : decode cL_gap 15 = .ok (.astore 5, 2) := by decide +kernel
theorem dL_gap_17 : decode cL_gap 17 = .ok (.iconst 1, 1) := by decide +kernel
theorem dL_gap_18 : decode cL_gap 18 = .ok (.ireturn, 1) := by decide +kernel
theorem dL_gap_19 : decode cL_gap 19 = .ok (.iconst 0, 1) := by decide +kernel
theorem dL_gap_20 : decode cL_gap 20 = .ok (.ireturn, 1) := by decide +kernel
theorem dL_takeOffcut_0 : decode cL_takeOffcut 0 = .ok (.aload_n 3, 1) := by decide +kernel
theorem dL_takeOffcut_1 : decode cL_takeOffcut 1 = .ok (.iconst 0, 1) := by decide +kernel
theorem dL_takeOffcut_2 : decode cL_takeOffcut 2 = .ok (.aload_n 0, 1) := by decide +kernel
theorem dL_takeOffcut_3 : decode cL_takeOffcut 3 = .ok (.iload_n 1, 1) := by decide +kernel
theorem dL_takeOffcut_4 : decode cL_takeOffcut 4 = .ok (.iload_n 2, 1) := by decide +kernel
theorem dL_takeOffcut_5 : decode cL_takeOffcut 5 = .ok (.invokevirtual 132, 3) := by decide +kernel
theorem dL_takeOffcut_8 : decode cL_takeOffcut 8 = .ok (.i2l, 1) := by decide +kernel
theorem dL_takeOffcut_9 : decode cL_takeOffcut 9 = .ok (.lastore, 1) := by decide +kernel
theorem dL_takeOffcut_10 : decode cL_takeOffcut 10 = .ok (.goto 11, 3) := by decide +kernel
theorem dL_takeOffcut_13 : decode cL_takeOffcut 13 = .ok (.astore 4, 2) := by decide +kernel
theorem dL_takeOffcut_15 : decode cL_takeOffcut 15 = .ok (.iconst 1, 1) := by decide +kernel
theorem dL_takeOffcut_16 : decode cL_takeOffcut 16 = .ok (.ireturn, 1) := by decide +kernel
theorem dL_takeOffcut_17 : decode cL_takeOffcut 17 = .ok (.astore 4, 2) := by decide +kernel
theorem dL_takeOffcut_19 : decode cL_takeOffcut 19 = .ok (.iconst 2, 1) := by decide +kernel
theorem dL_takeOffcut_20 : decode cL_takeOffcut 20 = .ok (.ireturn, 1) := by decide +kernel
theorem dL_takeOffcut_21 : decode cL_takeOffcut 21 = .ok (.iconst 0, 1) := by decide +kernel
theorem dL_takeOffcut_22 : decode cL_takeOffcut 22 = .ok (.ireturn, 1) := by decide +kernel
theorem dL_account_0 : decode cL_account 0 = .ok (.aload_n 2, 1) := by decide +kernel
theorem dL_account_1 : decode cL_account 1 = .ok (.iconst 0, 1) := by decide +kernel
theorem dL_account_2 : decode cL_account 2 = .ok (.aload_n 0, 1) := by decide +kernel
theorem dL_account_3 : decode cL_account 3 = .ok (.iload_n 1, 1) := by decide +kernel
theorem dL_account_4 : decode cL_account 4 = .ok (.invokevirtual 135, 3) := by decide +kernel
theorem dL_account_7 : decode cL_account 7 = .ok (.i2l, 1) := by decide +kernel
theorem dL_account_8 : decode cL_account 8 = .ok (.lastore, 1) := by decide +kernel
theorem dL_account_9 : decode cL_account 9 = .ok (.goto 6, 3) := by decide +kernel
theorem dL_account_12 : decode cL_account 12 = .ok (.astore_n 3, 1) := by decide +kernel
theorem dL_account_13 : decode cL_account 13 = .ok (.iconst 1, 1) := by decide +kernel
theorem dL_account_14 : decode cL_account 14 = .ok (.ireturn, 1) := by decide +kernel
theorem dL_account_15 : decode cL_account 15 = .ok (.iconst 0, 1) := by decide +kernel
theorem dL_account_16 : decode cL_account 16 = .ok (.ireturn, 1) := by decide +kernel
theorem dL_price_0 : decode cL_price 0 = .ok (.aload_n 2, 1) := by decide +kernel
theorem dL_price_1 : decode cL_price 1 = .ok (.iconst 0, 1) := by decide +kernel
theorem dL_price_2 : decode cL_price 2 = .ok (.aload_n 0, 1) := by decide +kernel
theorem dL_price_3 : decode cL_price 3 = .ok (.iload_n 1, 1) := by decide +kernel
theorem dL_price_4 : decode cL_price 4 = .ok (.invokevirtual 139, 3) := by decide +kernel
theorem dL_price_7 : decode cL_price 7 = .ok (.i2l, 1) := by decide +kernel
theorem dL_price_8 : decode cL_price 8 = .ok (.lastore, 1) := by decide +kernel
theorem dL_price_9 : decode cL_price 9 = .ok (.goto 6, 3) := by decide +kernel
theorem dL_price_12 : decode cL_price 12 = .ok (.astore_n 3, 1) := by decide +kernel
theorem dL_price_13 : decode cL_price 13 = .ok (.iconst 1, 1) := by decide +kernel
theorem dL_price_14 : decode cL_price 14 = .ok (.ireturn, 1) := by decide +kernel
theorem dL_price_15 : decode cL_price 15 = .ok (.iconst 0, 1) := by decide +kernel
theorem dL_price_16 : decode cL_price 16 = .ok (.ireturn, 1) := by decide +kernel
theorem dL_usedShare_0 : decode cL_usedShare 0 = .ok (.aload_n 1, 1) := by decide +kernel
theorem dL_usedShare_1 : decode cL_usedShare 1 = .ok (.iconst 0, 1) := by decide +kernel
theorem dL_usedShare_2 : decode cL_usedShare 2 = .ok (.aload_n 0, 1) := by decide +kernel
theorem dL_usedShare_3 : decode cL_usedShare 3 = .ok (.invokevirtual 142, 3) := by decide +kernel
theorem dL_usedShare_6 : decode cL_usedShare 6 = .ok (.f2d, 1) := by decide +kernel
theorem dL_usedShare_7 : decode cL_usedShare 7 = .ok (.dastore, 1) := by decide +kernel
theorem dL_usedShare_8 : decode cL_usedShare 8 = .ok (.goto 6, 3) := by decide +kernel
theorem dL_usedShare_11 : decode cL_usedShare 11 = .ok (.astore_n 2, 1) := by decide +kernel
theorem dL_usedShare_12 : decode cL_usedShare 12 = .ok (.iconst 1, 1) := by decide +kernel
theorem dL_usedShare_13 : decode cL_usedShare 13 = .ok (.ireturn, 1) := by decide +kernel
theorem dL_usedShare_14 : decode cL_usedShare 14 = .ok (.iconst 0, 1) := by decide +kernel
theorem dL_usedShare_15 : decode cL_usedShare 15 = .ok (.ireturn, 1) := by decide +kernel
theorem dL_meanFigure_0 : decode cL_meanFigure 0 = .ok (.aload_n 1, 1) := by decide +kernel
theorem dL_meanFigure_1 : decode cL_meanFigure 1 = .ok (.iconst 0, 1) := by decide +kernel
theorem dL_meanFigure_2 : decode cL_meanFigure 2 = .ok (.aload_n 0, 1) := by decide +kernel
theorem dL_meanFigure_3 : decode cL_meanFigure 3 = .ok (.invokevirtual 148, 3) := by decide +kernel
theorem dL_meanFigure_6 : decode cL_meanFigure 6 = .ok (.dastore, 1) := by decide +kernel
theorem dL_meanFigure_7 : decode cL_meanFigure 7 = .ok (.goto 6, 3) := by decide +kernel
theorem dL_meanFigure_10 : decode cL_meanFigure 10 = .ok (.astore_n 2, 1) := by decide +kernel
theorem dL_meanFigure_11 : decode cL_meanFigure 11 = .ok (.iconst 1, 1) := by decide +kernel
theorem dL_meanFigure_12 : decode cL_meanFigure 12 = .ok (.ireturn, 1) := by decide +kernel
theorem dL_meanFigure_13 : decode cL_meanFigure 13 = .ok (.iconst 0, 1) := by decide +kernel
theorem dL_meanFigure_14 : decode cL_meanFigure 14 = .ok (.ireturn, 1) := by decide +kernel
end
section
/-! ===== THE FRAME OF MY OWN: things have names (a tag and a number), a heap of names, one judgement VV ===== -/
abbrev RN : Type := Nat × Nat
abbrev PV : Type := Int32 ⊕ (RN ⊕ (Int64 ⊕ (UInt32 ⊕ UInt64)))
abbrev pv_I (x : Int32) : PV := .inl x
abbrev pv_O (r : RN) : PV := .inr (.inl r)
abbrev pv_L (x : Int64) : PV := .inr (.inr (.inl x))
abbrev pv_F (x : UInt32) : PV := .inr (.inr (.inr (.inl x)))
abbrev pv_D (x : UInt64) : PV := .inr (.inr (.inr (.inr x)))
/-- the heap of names: which are made, lengths, numbers, references, longs, doubles -/
abbrev PH : Type := (Nat → Nat → Bool) × (Nat → Nat → Nat) × (Nat → Nat → Nat → Int32) × (Nat → Nat → Nat → RN) × (Nat → Nat → Nat → Int64) × (Nat → Nat → Nat → UInt64)
def hp_al (h : PH) : Nat → Nat → Bool := h.1
def hp_ln (h : PH) : Nat → Nat → Nat := h.2.1
def hp_vi (h : PH) : Nat → Nat → Nat → Int32 := h.2.2.1
def hp_vr (h : PH) : Nat → Nat → Nat → RN := h.2.2.2.1
def hp_vl (h : PH) : Nat → Nat → Nat → Int64 := h.2.2.2.2.1
def hp_vd (h : PH) : Nat → Nat → Nat → UInt64 := h.2.2.2.2.2
def hp_seti (h : PH) (t i k : Nat) (x : Int32) : PH := (h.1, h.2.1, (fun a b c => if a = t ∧ b = i ∧ c = k then x else h.2.2.1 a b c), h.2.2.2)
def hp_setr (h : PH) (t i k : Nat) (x : RN) : PH := (h.1, h.2.1, h.2.2.1, (fun a b c => if a = t ∧ b = i ∧ c = k then x else h.2.2.2.1 a b c), h.2.2.2.2)
def hp_setl (h : PH) (t i k : Nat) (x : Int64) : PH := (h.1, h.2.1, h.2.2.1, h.2.2.2.1, (fun a b c => if a = t ∧ b = i ∧ c = k then x else h.2.2.2.2.1 a b c), h.2.2.2.2.2)
def hp_setd (h : PH) (t i k : Nat) (x : UInt64) : PH := (h.1, h.2.1, h.2.2.1, h.2.2.2.1, h.2.2.2.2.1, (fun a b c => if a = t ∧ b = i ∧ c = k then x else h.2.2.2.2.2 a b c))
def hp_new (h : PH) (t i n : Nat) : PH := ((fun a b => if a = t ∧ b = i then true else h.1 a b), (fun a b => if a = t ∧ b = i then n else h.2.1 a b),
  (fun a b c => if a = t ∧ b = i then 0 else h.2.2.1 a b c), (fun a b c => if a = t ∧ b = i then (0, 0) else h.2.2.2.1 a b c),
  (fun a b c => if a = t ∧ b = i then 0 else h.2.2.2.2.1 a b c), (fun a b c => if a = t ∧ b = i then 0 else h.2.2.2.2.2 a b c))
/-! the classes and the tags -/
def g_cl : List vw_C := [(RJ0, TJ0, 2), (RJ6, TJ6, 1), (RJx35411, TJx35411, 4), (RJx4a65c, TJx4a65c, 3), (RX0, TX0, 8), (RX1, TX1, 5), (RX2, TX2, 2), (RX3, TX3, 3), (RX4, TX4, 14), (RX5, TX5, 8), (RX6, TX6, 11), (RX7, TX7, 4), (RX8, TX8, 3), (RX9, TX9, 5), (RX10, TX10, 13), (RX11, TX11, 3), (RX12, TX12, 13)]
def g_ty (ci : Nat) : Nat → FieldType := match ci with
  | 0 => tyJ0 | 1 => tyJ6 | 2 => tyJx35411 | 3 => tyJx4a65c | 4 => tyX0 | 5 => tyX1 | 6 => tyX2 | 7 => tyX3 | 8 => tyX4 | 9 => tyX5 | 10 => tyX6 | 11 => tyX7 | 12 => tyX8 | 13 => tyX9 | 14 => tyX10 | 15 => tyX11 | _ => tyX12
abbrev g_O : FieldType := .object "java/lang/Object"
/-- what a tag's things are: objects of a class, arrays of a type, or things of which nothing is asked -/
def tg_tab : List (Option (Nat ⊕ FieldType)) := [none,
  some (.inl 0), some (.inr .byte), some (.inr .int), some (.inl 1), some (.inr g_O), some (.inr (.object "java/lang/Integer")), some (.inr .int), none, none,
  some (.inl 10), some (.inl 5), some (.inl 4), some (.inl 8), some (.inl 9), some (.inl 6), some (.inl 7), some (.inl 7), some (.inl 7), none,
  some (.inl 3), some (.inl 3), some (.inl 3), some (.inl 3), some (.inl 3), some (.inr g_O), some (.inr g_O), some (.inr g_O), some (.inr g_O), some (.inr g_O),
  some (.inr .int), some (.inr .int), some (.inr .boolean), some (.inr .int), some (.inr .int), some (.inr .boolean), some (.inr .int), none, none, none,
  some (.inl 16), some (.inl 13), some (.inl 11), some (.inl 14), some (.inl 15), some (.inr .int), some (.inl 12), some (.inl 12), some (.inl 12), none,
  some (.inl 3), some (.inl 3), some (.inl 3), some (.inl 3), some (.inl 3), some (.inl 3), some (.inr g_O), some (.inr g_O), some (.inr g_O), some (.inr g_O), some (.inr g_O), some (.inr g_O),
  some (.inr .boolean), some (.inr .int), some (.inr .int), none, none, none, none, none,
  some (.inl 12), some (.inl 2), some (.inr .int), some (.inl 3), some (.inr g_O), some (.inr .int), none, none, none, none,
  some (.inr .long), some (.inr .double)]
def tg_k (t : Nat) : Option (Nat ⊕ FieldType) := tg_tab.getD t none
/-- the tables' words that stay -/
def g_ws : List Cond := lw_tbl.filter goodWord
/-- a run's fixed things: the launch, the classes' numbers, the arrays' classes, the heap at the start, where the old things lie, the script -/
abbrev GW : Type := Launch × va_G × (FieldType → ClassId) × Heap × (Nat → Nat → Nat) × Nat × (Nat → Int32)
abbrev gw_l (G : GW) : Launch := G.1
abbrev gw_D (G : GW) : va_G := G.2.1
abbrev gw_a (G : GW) : FieldType → ClassId := G.2.2.1
abbrev gw_H (G : GW) : Heap := G.2.2.2.1
abbrev gw_o (G : GW) : Nat → Nat → Nat := G.2.2.2.2.1
abbrev gw_L (G : GW) : Nat := G.2.2.2.2.2.1
abbrev gw_x (G : GW) : Nat → Int32 := G.2.2.2.2.2.2
/-- names and values, where they lie -/
def hp_ro (loc : Nat → Nat → Nat) (r : RN) : Option Nat := if r.1 = 0 then none else some (loc r.1 r.2)
def pv_c (loc : Nat → Nat → Nat) : PV → Value
  | .inl x => .int x
  | .inr (.inl r) => va_rf (hp_ro loc r)
  | .inr (.inr (.inl x)) => .long x
  | .inr (.inr (.inr (.inl x))) => .float x
  | .inr (.inr (.inr (.inr x))) => .double x
def hp_sv (loc : Nat → Nat → Nat) (h : PH) (t i k : Nat) : FieldType → Value
  | .object _ => va_rf (hp_ro loc (hp_vr h t i k))
  | .array _ => va_rf (hp_ro loc (hp_vr h t i k))
  | .long => .long (hp_vl h t i k)
  | .double => .double (hp_vd h t i k)
  | _ => .int (hp_vi h t i k)
def hp_at (G : GW) (loc : Nat → Nat → Nat) (h : PH) (t i : Nat) (H : Heap) : Prop := match tg_k t with
  | none => True
  | some (.inl ci) => ∃ q, g_cl[ci]? = some q ∧ t_OB (loc t i) ((gw_D G).1 ci) q.2.2 ((gw_D G).2 ci) H (fun k => hp_sv loc h t i k (g_ty ci k))
  | some (.inr ty) => H[loc t i]? = some (arrV (gw_a G ty) (hp_ln h t i) (fun k => hp_sv loc h t i k ty))
def ok_r (h : PH) (r : RN) : Prop := r = (0, 0) ∨ hp_al h r.1 r.2 = true
def ok_v (h : PH) : PV → Prop
  | .inr (.inl r) => ok_r h r
  | _ => True
def ok_s (h : PH) : List PV → Prop
  | [] => True
  | v :: l => ok_v h v ∧ ok_s h l
def ok_l (h : PH) : List (Option PV) → Prop
  | [] => True
  | none :: l => ok_l h l
  | some v :: l => ok_v h v ∧ ok_l h l
/-- the old things: constant -/
def g_odn : Nat → Nat
  | 1 => 11 | 2 => 11 | 3 => 5 | 4 => 256 | 5 => 1 | 6 => 1 | 7 => 1 | 8 => 1 | _ => 0
def g_txt : List (List Nat) := [[119, 109, 111, 104], [112, 99, 98], [102, 113, 114, 115], [115, 99, 98], [98, 115, 114], [119, 109, 111, 104], [112, 99, 98], [102, 113, 114, 115], [115, 99, 98], [98, 115, 114], [102, 98, 112, 111, 114, 119, 108]]
def g_arr : List (List Int32) := [[-3, -3, -2, 0, 1, 3, 4, 4, 2, 0, -1, -2], [0, 17, 35, 52, 70, 87, 105, 123, 141, 158, 176, 194, 213, 231, 249, 268], [6, 8, 9, 4], [0, 17, 35, 52, 70, 87, 105, 123, 141, 158, 176, 194, 213, 231, 249, 268], [-3, -3, -2, 0, 1, 3, 4, 4, 2, 0, -1, -2]]
def hp_old (G : GW) (h : PH) : Prop :=
  (∀ t i, i < g_odn t → hp_al h t i = true) ∧
  (∀ i, hp_vr h 1 i 0 = (2, i) ∧ hp_vi h 1 i 1 = 0) ∧ (∀ i, hp_ln h 2 i = (g_txt.getD i []).length ∧ ∀ k, hp_vi h 2 i k = nI ((g_txt.getD i []).getD k 0)) ∧
  (∀ i, hp_ln h 3 i = (g_arr.getD i []).length ∧ ∀ k, hp_vi h 3 i k = (g_arr.getD i []).getD k 0) ∧
  (∀ i, hp_vi h 4 i 0 = nI i - 128) ∧ hp_ln h 5 0 = 0 ∧ hp_ln h 6 0 = 256 ∧ (∀ k, k < 256 → hp_vr h 6 0 k = (4, k)) ∧ hp_ln h 7 0 = gw_L G ∧ (∀ k, hp_vi h 7 0 k = gw_x G k)
def hp_Rep (G : GW) (loc : Nat → Nat → Nat) (h : PH) (H : Heap) : Prop :=
  (∀ t i, hp_al h t i = true → hp_at G loc h t i H) ∧
  (∀ t i u j, hp_al h t i = true → hp_al h u j = true → 10 ≤ t → loc t i = loc u j → t = u ∧ i = j) ∧
  (∀ t i, hp_al h t i = true → (10 ≤ t → (gw_H G).size ≤ loc t i) ∧ loc t i < H.size) ∧
  ((gw_H G).size ≤ H.size ∧ ∀ a : Nat, a < (gw_H G).size → H[a]? = (gw_H G)[a]?) ∧
  (∀ i, hp_al h 0 i = false) ∧ (∀ t i k, hp_al h t i = true → ok_r h (hp_vr h t i k)) ∧ hp_old G h ∧ ∀ t i, t < 10 → loc t i = gw_o G t i
def hp_ext (h0 : PH) (l0 : Nat → Nat → Nat) (h : PH) (l : Nat → Nat → Nat) : Prop := ∀ t i, hp_al h0 t i = true → hp_al h t i = true ∧ l t i = l0 t i
/-- what the tables say: classes, arrays' classes, statics, texts -/
def g_tys : List FieldType := [.int, .boolean, .byte, .long, .double, g_O, .object "java/lang/Integer"]
def g_st : List (String × String × String × PV) := [(RX6, "MONTHS", "[I", pv_O (3, 0)), (RX6, "TANGENTS", "[I", pv_O (3, 1)), (RX12, "SWELLS", "[I", pv_O (3, 2)), (RX12, "TANGENTS", "[I", pv_O (3, 3)), (RX12, "YEAR", "[I", pv_O (3, 4)), (RJx4a65c, "DEFAULTCAPACITY_EMPTY_ELEMENTDATA", "[Ljava/lang/Object;", pv_O (5, 0)), (RJxabbfe, "cache", "[Ljava/lang/Integer;", pv_O (6, 0)), (RJxabbfe, "high", "I", pv_I 127), (RJ0, "COMPACT_STRINGS", "Z", pv_I 1)]
def g_sx : List (String × Nat × String × Nat) := [(RX6, 32, "wmoh", 0), (RX6, 38, "pcb", 1), (RX6, 67, "fqrs", 2), (RX6, 106, "scb", 3), (RX6, 121, "bsr", 4), (RX12, 51, "wmoh", 5), (RX12, 65, "pcb", 6), (RX12, 84, "fqrs", 7), (RX12, 127, "scb", 8), (RX12, 179, "bsr", 9), (RX12, 373, "fbporwl", 10)]
def w_ok (G : GW) (U : State) : Prop := va_K (gw_D G) g_cl [] U ∧ (∀ ty ∈ g_tys, ArrOfT U (gw_a G ty) ty ∧ va_RA U (gw_a G ty) ty) ∧
  (∀ q ∈ g_st, va_Z q.1 q.2.1 q.2.2.1 (pv_c (gw_o G) q.2.2.2) (fun a => (gw_H G).size ≤ a) U (gw_H G)) ∧ (∀ q ∈ g_sx, vk_R q.1 q.2.1 q.2.2.1 (gw_o G 1 q.2.2.2) U) ∧
  vx_Zq Bundle.tN "UNASSIGNED_STACK" Bundle.steD (fun a => (gw_H G).size ≤ a) U (gw_H G) ∧ vx_Zq Bundle.tN "SUPPRESSED_SENTINEL" Bundle.listD (fun a => (gw_H G).size ≤ a) U (gw_H G) ∧ (gw_l G).flags = flags0
abbrev RS : Type := Option PV ⊕ String
def vv_Q (G : GW) (h0 : PH) (l0 : Nat → Nat → Nat) (Q : RS → PH → Prop) : Array Value → State → Outcome → State → Prop := fun _ _ o t =>
  ∃ (r : Option PV) (l1 : Nat → Nat → Nat) (h1 : PH), o = .returned (r.map (pv_c l1)) ∧ Q (.inl r) h1 ∧ hp_Rep G l1 h1 t.heap ∧ hp_ext h0 l0 h1 l1 ∧ ∀ v, r = some v → ok_v h1 v
def vv_X (G : GW) (h0 : PH) (l0 : Nat → Nat → Nat) (Q : RS → PH → Prop) : String → State → State → Prop := fun E _ t =>
  ∃ (l1 : Nat → Nat → Nat) (h1 : PH), Q (.inr E) h1 ∧ hp_Rep G l1 h1 t.heap ∧ hp_ext h0 l0 h1 l1
def lv_ok (loc : Nat → Nat → Nat) (a : Array Slot) (nL : Nat) (ls : List (Option PV)) : Prop := a.size = nL ∧ lv_wf a ∧ ∀ (i : Nat) (v : PV), ls[i]? = some (some v) → a[i]? = some (.val (pv_c loc v))
/-- where the walk stands: the machine, the code, the words, the room -/
def vv_C (G : GW) (d k n : Nat) (y : MethodName) (cc : ByteArray) (nL : Nat) (ret : Option FieldType) (hh : List (Nat × Nat × Nat × Nat)) (p : Program) (R : Room) (s : State) (m : MethodId) (args : Array Value) (meth : Method) (c : Code) (cells slots : Nat) : Prop :=
  p.tables.exec = Jvm.exec ∧ c.code = cc ∧ c.maxLocals = nL ∧ meth.sig.returnType = ret ∧ meth.locks = false ∧ meth.name = y.name ∧ s.vm.findClass y.cls = some m.cls ∧ (∀ w ∈ g_ws, w.before args s = true) ∧ c.exceptionTable.toList = tableOf hh ∧ w_ok G s ∧
  d ≤ R.frames ∧ 40 * d ≤ R.locals ∧ cells + k ≤ R.cells ∧ slots + n ≤ R.slots
/-- THE JUDGEMENT: from here the method returns or throws as Q says, with d more calls nested, k more cells of n more slots -/
def VV (G : GW) (d k n : Nat) (y : MethodName) (cc : ByteArray) (nL : Nat) (ret : Option FieldType) (hh : List (Nat × Nat × Nat × Nat)) (pc : Nat) (ls : List (Option PV)) (st : List PV) (h : PH) (Q : RS → PH → Prop) : Prop :=
  ∀ (p : Program) (e : Env) (R : Room) (s : State) (m : MethodId) (args : Array Value) (below : List Frame) (meth : Method) (c : Code) (H : Heap) (locs : List Loc) (cells slots : Nat) (h0 : PH) (l0 loc : Nat → Nat → Nat) (a : Array Slot),
    vv_C G d k n y cc nL ret hh p R s m args meth c cells slots → hp_Rep G loc h H → hp_ext h0 l0 h loc → (∀ q ∈ locs, (gw_H G).size ≤ q.base) → lv_ok loc a nL ls → ok_s h st → ok_l h ls →
    W p (gw_l G) e R s m args below meth c H locs cells slots (vx_MQ below (vv_Q G h0 l0 Q) (vv_X G h0 l0 Q) args s R.cells R.slots (fun q => (gw_H G).size ≤ q)) (F0 m pc a (st.map (pv_c loc)))
theorem vv_C.less {G : GW} {d k n d' k' n' : Nat} {y : MethodName} {cc : ByteArray} {nL : Nat} {ret : Option FieldType} {hh : List (Nat × Nat × Nat × Nat)} {p : Program} {R : Room} {s : State} {m : MethodId} {args : Array Value} {meth : Method} {c : Code} {cells slots : Nat}
    (C : vv_C G d k n y cc nL ret hh p R s m args meth c cells slots) (hd : d' ≤ d) (hk : k' ≤ k) (hn : n' ≤ n) : vv_C G d' k' n' y cc nL ret hh p R s m args meth c cells slots := by
  obtain ⟨c1, c2, c3, c4, c5, c6, c7, c8, c9, c10, c11, c12, c13, c14⟩ := C
  exact ⟨c1, c2, c3, c4, c5, c6, c7, c8, c9, c10, by omega, by omega, by omega, by omega⟩
section VVB
variable {G : GW} {d k n : Nat} {y : MethodName} {cc : ByteArray} {nL : Nat} {ret : Option FieldType} {hh : List (Nat × Nat × Nat × Nat)} {pc : Nat} {ls : List (Option PV)} {st : List PV} {h : PH} {Q : RS → PH → Prop}
theorem VV.mono {Q' : RS → PH → Prop} (hq : ∀ r h1, Q' r h1 → Q r h1) (k0 : VV G d k n y cc nL ret hh pc ls st h Q') : VV G d k n y cc nL ret hh pc ls st h Q := by
  intro p e R s m args below meth c H locs cells slots h0 l0 loc a C hR hE hL hl hs ho T hT X
  obtain ⟨t, a1, o, b1, b2, b3⟩ := k0 p e R s m args below meth c H locs cells slots h0 l0 loc a C hR hE hL hl hs ho T hT X
  refine ⟨t, a1, o, b1, b2, ?_⟩
  rcases b3 with ⟨⟨r, l1, h1, e1, e2, e3⟩, b4⟩ | ⟨q, e1, E, ce, L, ⟨l1, h1, e2, e3⟩, b4⟩
  · exact Or.inl ⟨⟨r, l1, h1, e1, hq _ _ e2, e3⟩, b4⟩
  · exact Or.inr ⟨q, e1, E, ce, L, ⟨l1, h1, hq _ _ e2, e3⟩, b4⟩
theorem VV.less {d' k' n' : Nat} (hd : d' ≤ d) (hk : k' ≤ k) (hn : n' ≤ n) (k0 : VV G d' k' n' y cc nL ret hh pc ls st h Q) : VV G d k n y cc nL ret hh pc ls st h Q := by
  intro p e R s m args below meth c H locs cells slots h0 l0 loc a C hR hE hL hl hs ho
  exact k0 p e R s m args below meth c H locs cells slots h0 l0 loc a (C.less hd hk hn) hR hE hL hl hs ho
/-- what the heap always has -/
theorem VV.know (k0 : hp_old G h → (∀ t i k, hp_al h t i = true → ok_r h (hp_vr h t i k)) → (∀ i, hp_al h 0 i = false) → VV G d k n y cc nL ret hh pc ls st h Q) : VV G d k n y cc nL ret hh pc ls st h Q := by
  intro p e R s m args below meth c H locs cells slots h0 l0 loc a C hR hE hL hl hs ho
  exact k0 hR.2.2.2.2.2.2.1 hR.2.2.2.2.2.1 hR.2.2.2.2.1 p e R s m args below meth c H locs cells slots h0 l0 loc a C hR hE hL hl hs ho
end VVB
end
