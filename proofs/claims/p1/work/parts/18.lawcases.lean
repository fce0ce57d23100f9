/-! THE CLAIM OUT OF ONE WALK OF THE LAW'S BODY. Your part is whole_start (and what it stands on); all else here is the same for every law, but numbers. -/
def R_law : String := "SpokenBiteLaw"
def lw_P (b : Addr) (xs : List Int32) (args : Array Value) (s : State) : Prop := args = #[.ref b] ∧ s.IntsAt b xs ∧ xs.length ≤ 6 ∧ (Jvm.Cond.and given_1 narrow_1).before args s = true
def lw_Q (_ : Array Value) (s : State) (o : Outcome) (t : State) : Prop := o = .returned (some (.int 1)) ∧ Framed s o t [] 600000 7302250
def lw_Z (below : List Frame) (a : Array Value) (s : State) : State → Prop := fun t => ∃ o, t.status = .running ∧ Ended t below o ∧ lw_Q a s o t
/-- the law's own end, with 1 on the stack, nothing written that was there before, its room as the claim has it -/
theorem lw_ret {p : Program} {l : Launch} {e : Env} {s : State} {m : MethodId} {below : List Frame} {meth : Method} {c : Code} {b : Nat} (hx : p.tables.exec = Jvm.exec) (hb : c.code = code) (hr : meth.sig.returnType = ret) (hlocks : meth.locks = false) {pc : Nat} {H : Heap} {ls : Array Slot} (hdg : decode code pc = .ok (.ireturn, 1)) : W p l e room_1 s m #[Value.ref b] below meth c H [] 600000 7302250 (lw_Z below #[Value.ref b] s) (F0 m pc ls [.int 1]) := by
  intro T hT X
  obtain ⟨fs, hret, hrun, hended, hW, hframe⟩ := X.leave (v := some (.int 1)) (hlocks := hlocks) (fun h => by rw [hr] at h; cases h)
  have hmeth' : T.vm.method? m = some meth := X.method'
  refine ⟨T.setFrames fs, ?_, .returned (some (.int 1)), hrun, hended, rfl, ⟨_, rfl⟩, hW, hframe⟩
  jvm_step X.here [X.here.top, hx, hb, hdg, hmeth', hr, ret, narrow_b1]
  (try refine ⟨rfl, ?_⟩); (try refine ⟨rfl, ?_⟩)
  first | (intro acts; rw [hret _ acts rfl rfl rfl]) | rw [hret _ _ rfl rfl rfl]
  exact Steps.refl _
/-- what holds at the law's entry: the machine, the code, the tables' words (any of lw_tbl by 'hts w (by decide +kernel)'), the script of L ints xs at the cell b, what the Statement gives of the start (any of its parts by flat_of_before) -/
def lw_At (p : Program) (s : State) (m : MethodId) (meth : Method) (c : Code) (b L : Nat) (xs : Nat → Int32) : Prop :=
  p.tables.exec = Jvm.exec ∧ c.code = code ∧ meth.sig.returnType = ret ∧ c.maxLocals = 4 ∧ s.vm.findClass R_law = some m.cls ∧ (∀ w ∈ lw_tbl, w.before #[Value.ref b] s = true) ∧ va_X b L xs s s.heap ∧ b < s.heap.size ∧ meth.locks = false ∧ (Jvm.Cond.and given_1 narrow_1).before #[Value.ref b] s = true
theorem qw_507 : (.methodLink RL 13 yX11_feed : Cond) ∈ wsA := mA (i := 507) (by decide +kernel) rfl
theorem qw_508 : (.instanceMethod yX11_feed : Cond) ∈ wsA := mA (i := 508) (by decide +kernel) rfl
theorem qw_509 : (.selects RX11 yX11_feed yX11_feed : Cond) ∈ wsA := mA (i := 509) (by decide +kernel) rfl
theorem qw_510 : (.code yX11_feed cX11_feed 6 (some .int) : Cond) ∈ wsA := mA (i := 510) (by decide +kernel) rfl
theorem qw_515 : (.methodLink RL 18 yX11_end : Cond) ∈ wsA := mA (i := 515) (by decide +kernel) rfl
theorem qw_516 : (.instanceMethod yX11_end : Cond) ∈ wsA := mA (i := 516) (by decide +kernel) rfl
theorem qw_517 : (.selects RX11 yX11_end yX11_end : Cond) ∈ wsA := mA (i := 517) (by decide +kernel) rfl
theorem qw_518 : (.code yX11_end cX11_end 2 (some .int) : Cond) ∈ wsA := mA (i := 518) (by decide +kernel) rfl
theorem qw_519 : (.methodLink RL 23 yX11_dinner : Cond) ∈ wsA := mA (i := 519) (by decide +kernel) rfl
theorem qw_520 : (.instanceMethod yX11_dinner : Cond) ∈ wsA := mA (i := 520) (by decide +kernel) rfl
theorem qw_521 : (.selects RX11 yX11_dinner yX11_dinner : Cond) ∈ wsA := mA (i := 521) (by decide +kernel) rfl
theorem qw_522 : (.code yX11_dinner cX11_dinner 2 (some .int) : Cond) ∈ wsA := mA (i := 522) (by decide +kernel) rfl
theorem qw_663 : (.methodLink RL 28 yX11_rule : Cond) ∈ wsA := mA (i := 663) (by decide +kernel) rfl
theorem qw_664 : (.instanceMethod yX11_rule : Cond) ∈ wsA := mA (i := 664) (by decide +kernel) rfl
theorem qw_665 : (.selects RX11 yX11_rule yX11_rule : Cond) ∈ wsA := mA (i := 665) (by decide +kernel) rfl
theorem qw_666 : (.code yX11_rule cX11_rule 3 (some .int) : Cond) ∈ wsA := mA (i := 666) (by decide +kernel) rfl
theorem qw_731 : (.methodLink RL 32 yX11_force : Cond) ∈ wsA := mA (i := 731) (by decide +kernel) rfl
theorem qw_732 : (.instanceMethod yX11_force : Cond) ∈ wsA := mA (i := 732) (by decide +kernel) rfl
theorem qw_733 : (.selects RX11 yX11_force yX11_force : Cond) ∈ wsA := mA (i := 733) (by decide +kernel) rfl
theorem qw_734 : (.code yX11_force cX11_force 3 (some .int) : Cond) ∈ wsA := mA (i := 734) (by decide +kernel) rfl
theorem qw_735 : (.methodLink RL 36 yX11_dish : Cond) ∈ wsA := mA (i := 735) (by decide +kernel) rfl
theorem qw_736 : (.instanceMethod yX11_dish : Cond) ∈ wsA := mA (i := 736) (by decide +kernel) rfl
theorem qw_737 : (.selects RX11 yX11_dish yX11_dish : Cond) ∈ wsA := mA (i := 737) (by decide +kernel) rfl
theorem qw_738 : (.code yX11_dish cX11_dish 3 (some .int) : Cond) ∈ wsA := mA (i := 738) (by decide +kernel) rfl
theorem qw_758 : (.methodLink RL 41 yX11_guest : Cond) ∈ wsA := mA (i := 758) (by decide +kernel) rfl
theorem qw_759 : (.instanceMethod yX11_guest : Cond) ∈ wsA := mA (i := 759) (by decide +kernel) rfl
theorem qw_760 : (.selects RX11 yX11_guest yX11_guest : Cond) ∈ wsA := mA (i := 760) (by decide +kernel) rfl
theorem qw_761 : (.code yX11_guest cX11_guest 3 (some .int) : Cond) ∈ wsA := mA (i := 761) (by decide +kernel) rfl
theorem qw_774 : (.methodLink RL 45 yX11_clashes : Cond) ∈ wsA := mA (i := 774) (by decide +kernel) rfl
theorem qw_775 : (.instanceMethod yX11_clashes : Cond) ∈ wsA := mA (i := 775) (by decide +kernel) rfl
theorem qw_776 : (.selects RX11 yX11_clashes yX11_clashes : Cond) ∈ wsA := mA (i := 776) (by decide +kernel) rfl
theorem qw_777 : (.code yX11_clashes cX11_clashes 2 (some .int) : Cond) ∈ wsA := mA (i := 777) (by decide +kernel) rfl
theorem qw_785 : (.methodLink RL 49 yX11_throat : Cond) ∈ wsA := mA (i := 785) (by decide +kernel) rfl
theorem qw_786 : (.instanceMethod yX11_throat : Cond) ∈ wsA := mA (i := 786) (by decide +kernel) rfl
theorem qw_787 : (.selects RX11 yX11_throat yX11_throat : Cond) ∈ wsA := mA (i := 787) (by decide +kernel) rfl
theorem qw_788 : (.code yX11_throat cX11_throat 2 (some .int) : Cond) ∈ wsA := mA (i := 788) (by decide +kernel) rfl
theorem qw_790 : (.methodLink RL 53 yX11_minute : Cond) ∈ wsA := mA (i := 790) (by decide +kernel) rfl
theorem qw_791 : (.instanceMethod yX11_minute : Cond) ∈ wsA := mA (i := 791) (by decide +kernel) rfl
theorem qw_792 : (.selects RX11 yX11_minute yX11_minute : Cond) ∈ wsA := mA (i := 792) (by decide +kernel) rfl
theorem qw_793 : (.code yX11_minute cX11_minute 1 (some .int) : Cond) ∈ wsA := mA (i := 793) (by decide +kernel) rfl
theorem qw_890 : (.methodLink RL 57 yX11_offer : Cond) ∈ wsA := mA (i := 890) (by decide +kernel) rfl
theorem qw_891 : (.instanceMethod yX11_offer : Cond) ∈ wsA := mA (i := 891) (by decide +kernel) rfl
theorem qw_892 : (.selects RX11 yX11_offer yX11_offer : Cond) ∈ wsA := mA (i := 892) (by decide +kernel) rfl
theorem qw_893 : (.code yX11_offer cX11_offer 4 (some .int) : Cond) ∈ wsA := mA (i := 893) (by decide +kernel) rfl
theorem qw_894 : (.methodLink RL 61 yX11_serve : Cond) ∈ wsA := mA (i := 894) (by decide +kernel) rfl
theorem qw_895 : (.instanceMethod yX11_serve : Cond) ∈ wsA := mA (i := 895) (by decide +kernel) rfl
theorem qw_896 : (.selects RX11 yX11_serve yX11_serve : Cond) ∈ wsA := mA (i := 896) (by decide +kernel) rfl
theorem qw_897 : (.code yX11_serve cX11_serve 2 (some .int) : Cond) ∈ wsA := mA (i := 897) (by decide +kernel) rfl
theorem qw_898 : (.methodLink RL 65 yX11_fetch : Cond) ∈ wsA := mA (i := 898) (by decide +kernel) rfl
theorem qw_899 : (.instanceMethod yX11_fetch : Cond) ∈ wsA := mA (i := 899) (by decide +kernel) rfl
theorem qw_900 : (.selects RX11 yX11_fetch yX11_fetch : Cond) ∈ wsA := mA (i := 900) (by decide +kernel) rfl
theorem qw_901 : (.code yX11_fetch cX11_fetch 3 (some .int) : Cond) ∈ wsA := mA (i := 901) (by decide +kernel) rfl
theorem qw_908 : (.methodLink RL 69 yX11_tell : Cond) ∈ wsA := mA (i := 908) (by decide +kernel) rfl
theorem qw_909 : (.instanceMethod yX11_tell : Cond) ∈ wsA := mA (i := 909) (by decide +kernel) rfl
theorem qw_910 : (.selects RX11 yX11_tell yX11_tell : Cond) ∈ wsA := mA (i := 910) (by decide +kernel) rfl
theorem qw_911 : (.code yX11_tell cX11_tell 3 (some .int) : Cond) ∈ wsA := mA (i := 911) (by decide +kernel) rfl
theorem qw_913 : (.methodLink RL 73 yX11_undo : Cond) ∈ wsA := mA (i := 913) (by decide +kernel) rfl
theorem qw_914 : (.instanceMethod yX11_undo : Cond) ∈ wsA := mA (i := 914) (by decide +kernel) rfl
theorem qw_915 : (.selects RX11 yX11_undo yX11_undo : Cond) ∈ wsA := mA (i := 915) (by decide +kernel) rfl
theorem qw_916 : (.code yX11_undo cX11_undo 1 (some .int) : Cond) ∈ wsA := mA (i := 916) (by decide +kernel) rfl
theorem qw_921 : (.methodLink RL 77 yX11_ahead : Cond) ∈ wsA := mA (i := 921) (by decide +kernel) rfl
theorem qw_922 : (.instanceMethod yX11_ahead : Cond) ∈ wsA := mA (i := 922) (by decide +kernel) rfl
theorem qw_923 : (.selects RX11 yX11_ahead yX11_ahead : Cond) ∈ wsA := mA (i := 923) (by decide +kernel) rfl
theorem qw_924 : (.code yX11_ahead cX11_ahead 4 (some .int) : Cond) ∈ wsA := mA (i := 924) (by decide +kernel) rfl
theorem qw_935 : (.methodLink RL 82 yX11_said : Cond) ∈ wsA := mA (i := 935) (by decide +kernel) rfl
theorem qw_936 : (.instanceMethod yX11_said : Cond) ∈ wsA := mA (i := 936) (by decide +kernel) rfl
theorem qw_937 : (.selects RX11 yX11_said yX11_said : Cond) ∈ wsA := mA (i := 937) (by decide +kernel) rfl
theorem qw_938 : (.code yX11_said cX11_said 3 (some .int) : Cond) ∈ wsA := mA (i := 938) (by decide +kernel) rfl
theorem qw_939 : (.methodLink RL 86 yX11_quiet : Cond) ∈ wsA := mA (i := 939) (by decide +kernel) rfl
theorem qw_940 : (.instanceMethod yX11_quiet : Cond) ∈ wsA := mA (i := 940) (by decide +kernel) rfl
theorem qw_941 : (.selects RX11 yX11_quiet yX11_quiet : Cond) ∈ wsA := mA (i := 941) (by decide +kernel) rfl
theorem qw_942 : (.code yX11_quiet cX11_quiet 2 (some .int) : Cond) ∈ wsA := mA (i := 942) (by decide +kernel) rfl
theorem qw_943 : (.methodLink RL 90 yX11_knowing : Cond) ∈ wsA := mA (i := 943) (by decide +kernel) rfl
theorem qw_944 : (.instanceMethod yX11_knowing : Cond) ∈ wsA := mA (i := 944) (by decide +kernel) rfl
theorem qw_945 : (.selects RX11 yX11_knowing yX11_knowing : Cond) ∈ wsA := mA (i := 945) (by decide +kernel) rfl
theorem qw_946 : (.code yX11_knowing cX11_knowing 4 (some .int) : Cond) ∈ wsA := mA (i := 946) (by decide +kernel) rfl
theorem qw_947 : (.methodLink RL 94 yX11_bestRow : Cond) ∈ wsA := mA (i := 947) (by decide +kernel) rfl
theorem qw_948 : (.instanceMethod yX11_bestRow : Cond) ∈ wsA := mA (i := 948) (by decide +kernel) rfl
theorem qw_949 : (.selects RX11 yX11_bestRow yX11_bestRow : Cond) ∈ wsA := mA (i := 949) (by decide +kernel) rfl
theorem qw_950 : (.code yX11_bestRow cX11_bestRow 3 (some .int) : Cond) ∈ wsA := mA (i := 950) (by decide +kernel) rfl
theorem qw_1020 : (.methodLink RL 98 yX11_hush : Cond) ∈ wsA := mA (i := 1020) (by decide +kernel) rfl
theorem qw_1021 : (.instanceMethod yX11_hush : Cond) ∈ wsA := mA (i := 1021) (by decide +kernel) rfl
theorem qw_1022 : (.selects RX11 yX11_hush yX11_hush : Cond) ∈ wsA := mA (i := 1022) (by decide +kernel) rfl
theorem qw_1023 : (.code yX11_hush cX11_hush 3 (some .int) : Cond) ∈ wsA := mA (i := 1023) (by decide +kernel) rfl
theorem qw_1024 : (.methodLink RL 102 yX11_rows : Cond) ∈ wsA := mA (i := 1024) (by decide +kernel) rfl
theorem qw_1025 : (.instanceMethod yX11_rows : Cond) ∈ wsA := mA (i := 1025) (by decide +kernel) rfl
theorem qw_1026 : (.selects RX11 yX11_rows yX11_rows : Cond) ∈ wsA := mA (i := 1026) (by decide +kernel) rfl
theorem qw_1027 : (.code yX11_rows cX11_rows 2 (some .int) : Cond) ∈ wsA := mA (i := 1027) (by decide +kernel) rfl
theorem qw_1028 : (.methodLink RL 106 yX11_believed : Cond) ∈ wsA := mA (i := 1028) (by decide +kernel) rfl
theorem qw_1029 : (.instanceMethod yX11_believed : Cond) ∈ wsA := mA (i := 1029) (by decide +kernel) rfl
theorem qw_1030 : (.selects RX11 yX11_believed yX11_believed : Cond) ∈ wsA := mA (i := 1030) (by decide +kernel) rfl
theorem qw_1031 : (.code yX11_believed cX11_believed 6 (some .int) : Cond) ∈ wsA := mA (i := 1031) (by decide +kernel) rfl
theorem qw_1035 : (.methodLink RL 110 yX11_dropped : Cond) ∈ wsA := mA (i := 1035) (by decide +kernel) rfl
theorem qw_1036 : (.instanceMethod yX11_dropped : Cond) ∈ wsA := mA (i := 1036) (by decide +kernel) rfl
theorem qw_1037 : (.selects RX11 yX11_dropped yX11_dropped : Cond) ∈ wsA := mA (i := 1037) (by decide +kernel) rfl
theorem qw_1038 : (.code yX11_dropped cX11_dropped 6 (some .int) : Cond) ∈ wsA := mA (i := 1038) (by decide +kernel) rfl
theorem qw_1039 : (.methodLink RL 114 yX11_leftOut : Cond) ∈ wsA := mA (i := 1039) (by decide +kernel) rfl
theorem qw_1040 : (.instanceMethod yX11_leftOut : Cond) ∈ wsA := mA (i := 1040) (by decide +kernel) rfl
theorem qw_1041 : (.selects RX11 yX11_leftOut yX11_leftOut : Cond) ∈ wsA := mA (i := 1041) (by decide +kernel) rfl
theorem qw_1042 : (.code yX11_leftOut cX11_leftOut 9 (some .int) : Cond) ∈ wsA := mA (i := 1042) (by decide +kernel) rfl
theorem qw_1048 : (.methodLink RL 118 yX11_rests : Cond) ∈ wsA := mA (i := 1048) (by decide +kernel) rfl
theorem qw_1049 : (.instanceMethod yX11_rests : Cond) ∈ wsA := mA (i := 1049) (by decide +kernel) rfl
theorem qw_1050 : (.selects RX11 yX11_rests yX11_rests : Cond) ∈ wsA := mA (i := 1050) (by decide +kernel) rfl
theorem qw_1051 : (.code yX11_rests cX11_rests 8 (some .int) : Cond) ∈ wsA := mA (i := 1051) (by decide +kernel) rfl
theorem qw_1068 : (.methodLink RL 123 yX11_crumbs : Cond) ∈ wsA := mA (i := 1068) (by decide +kernel) rfl
theorem qw_1069 : (.instanceMethod yX11_crumbs : Cond) ∈ wsA := mA (i := 1069) (by decide +kernel) rfl
theorem qw_1070 : (.selects RX11 yX11_crumbs yX11_crumbs : Cond) ∈ wsA := mA (i := 1070) (by decide +kernel) rfl
theorem qw_1071 : (.code yX11_crumbs cX11_crumbs 9 (some .int) : Cond) ∈ wsA := mA (i := 1071) (by decide +kernel) rfl
theorem qw_1076 : (.methodLink RL 127 yX11_loudest : Cond) ∈ wsA := mA (i := 1076) (by decide +kernel) rfl
theorem qw_1077 : (.instanceMethod yX11_loudest : Cond) ∈ wsA := mA (i := 1077) (by decide +kernel) rfl
theorem qw_1078 : (.selects RX11 yX11_loudest yX11_loudest : Cond) ∈ wsA := mA (i := 1078) (by decide +kernel) rfl
theorem qw_1079 : (.code yX11_loudest cX11_loudest 6 (some .int) : Cond) ∈ wsA := mA (i := 1079) (by decide +kernel) rfl
theorem qw_1080 : (.methodLink RL 131 yX11_note : Cond) ∈ wsA := mA (i := 1080) (by decide +kernel) rfl
theorem qw_1081 : (.instanceMethod yX11_note : Cond) ∈ wsA := mA (i := 1081) (by decide +kernel) rfl
theorem qw_1082 : (.selects RX11 yX11_note yX11_note : Cond) ∈ wsA := mA (i := 1082) (by decide +kernel) rfl
theorem qw_1083 : (.code yX11_note cX11_note 5 (some .int) : Cond) ∈ wsA := mA (i := 1083) (by decide +kernel) rfl
theorem qw_1088 : (.methodLink RL 135 yX11_ruled : Cond) ∈ wsA := mA (i := 1088) (by decide +kernel) rfl
theorem qw_1089 : (.instanceMethod yX11_ruled : Cond) ∈ wsA := mA (i := 1089) (by decide +kernel) rfl
theorem qw_1090 : (.selects RX11 yX11_ruled yX11_ruled : Cond) ∈ wsA := mA (i := 1090) (by decide +kernel) rfl
theorem qw_1091 : (.code yX11_ruled cX11_ruled 5 (some .int) : Cond) ∈ wsA := mA (i := 1091) (by decide +kernel) rfl
theorem qw_1097 : (.methodLink RL 139 yX11_look : Cond) ∈ wsA := mA (i := 1097) (by decide +kernel) rfl
theorem qw_1098 : (.instanceMethod yX11_look : Cond) ∈ wsA := mA (i := 1098) (by decide +kernel) rfl
theorem qw_1099 : (.selects RX11 yX11_look yX11_look : Cond) ∈ wsA := mA (i := 1099) (by decide +kernel) rfl
theorem qw_1100 : (.code yX11_look cX11_look 8 (some .int) : Cond) ∈ wsA := mA (i := 1100) (by decide +kernel) rfl
theorem qw_1111 : (.methodLink RL 143 yX11_seed : Cond) ∈ wsA := mA (i := 1111) (by decide +kernel) rfl
theorem qw_1112 : (.instanceMethod yX11_seed : Cond) ∈ wsA := mA (i := 1112) (by decide +kernel) rfl
theorem qw_1113 : (.selects RX11 yX11_seed yX11_seed : Cond) ∈ wsA := mA (i := 1113) (by decide +kernel) rfl
theorem qw_1114 : (.code yX11_seed cX11_seed 3 (some .int) : Cond) ∈ wsA := mA (i := 1114) (by decide +kernel) rfl
theorem qw_1115 : (.methodLink RL 147 yX11_hiccups : Cond) ∈ wsA := mA (i := 1115) (by decide +kernel) rfl
theorem qw_1116 : (.instanceMethod yX11_hiccups : Cond) ∈ wsA := mA (i := 1116) (by decide +kernel) rfl
theorem qw_1117 : (.selects RX11 yX11_hiccups yX11_hiccups : Cond) ∈ wsA := mA (i := 1117) (by decide +kernel) rfl
theorem qw_1118 : (.code yX11_hiccups cX11_hiccups 8 (some .int) : Cond) ∈ wsA := mA (i := 1118) (by decide +kernel) rfl
theorem qw_1134 : (.methodLink RL 151 yX11_count : Cond) ∈ wsA := mA (i := 1134) (by decide +kernel) rfl
theorem qw_1135 : (.instanceMethod yX11_count : Cond) ∈ wsA := mA (i := 1135) (by decide +kernel) rfl
theorem qw_1136 : (.selects RX11 yX11_count yX11_count : Cond) ∈ wsA := mA (i := 1136) (by decide +kernel) rfl
theorem qw_1137 : (.code yX11_count cX11_count 2 (some .int) : Cond) ∈ wsA := mA (i := 1137) (by decide +kernel) rfl
theorem qw_1138 : (.methodLink RL 155 yX11_image : Cond) ∈ wsA := mA (i := 1138) (by decide +kernel) rfl
theorem qw_1139 : (.instanceMethod yX11_image : Cond) ∈ wsA := mA (i := 1139) (by decide +kernel) rfl
theorem qw_1140 : (.selects RX11 yX11_image yX11_image : Cond) ∈ wsA := mA (i := 1140) (by decide +kernel) rfl
theorem qw_1141 : (.code yX11_image cX11_image 3 (some .int) : Cond) ∈ wsA := mA (i := 1141) (by decide +kernel) rfl
theorem qw_1150 : (.methodLink RL 159 yX11_back : Cond) ∈ wsA := mA (i := 1150) (by decide +kernel) rfl
theorem qw_1151 : (.instanceMethod yX11_back : Cond) ∈ wsA := mA (i := 1151) (by decide +kernel) rfl
theorem qw_1152 : (.selects RX11 yX11_back yX11_back : Cond) ∈ wsA := mA (i := 1152) (by decide +kernel) rfl
theorem qw_1153 : (.code yX11_back cX11_back 3 (some .int) : Cond) ∈ wsA := mA (i := 1153) (by decide +kernel) rfl
theorem qw_1291 : (.methodLink RL 17 yX12_feed : Cond) ∈ wsA := mA (i := 1291) (by decide +kernel) rfl
theorem qw_1292 : (.instanceMethod yX12_feed : Cond) ∈ wsA := mA (i := 1292) (by decide +kernel) rfl
theorem qw_1293 : (.selects RX12 yX12_feed yX12_feed : Cond) ∈ wsA := mA (i := 1293) (by decide +kernel) rfl
theorem qw_1294 : (.code yX12_feed cX12_feed 6 (some .int) : Cond) ∈ wsA := mA (i := 1294) (by decide +kernel) rfl
theorem qw_1299 : (.methodLink RL 22 yX12_end : Cond) ∈ wsA := mA (i := 1299) (by decide +kernel) rfl
theorem qw_1300 : (.instanceMethod yX12_end : Cond) ∈ wsA := mA (i := 1300) (by decide +kernel) rfl
theorem qw_1301 : (.selects RX12 yX12_end yX12_end : Cond) ∈ wsA := mA (i := 1301) (by decide +kernel) rfl
theorem qw_1302 : (.code yX12_end cX12_end 2 (some .int) : Cond) ∈ wsA := mA (i := 1302) (by decide +kernel) rfl
theorem qw_1303 : (.methodLink RL 31 yX12_rule : Cond) ∈ wsA := mA (i := 1303) (by decide +kernel) rfl
theorem qw_1304 : (.instanceMethod yX12_rule : Cond) ∈ wsA := mA (i := 1304) (by decide +kernel) rfl
theorem qw_1305 : (.selects RX12 yX12_rule yX12_rule : Cond) ∈ wsA := mA (i := 1305) (by decide +kernel) rfl
theorem qw_1306 : (.code yX12_rule cX12_rule 1 (some .int) : Cond) ∈ wsA := mA (i := 1306) (by decide +kernel) rfl
theorem qw_1456 : (.methodLink RL 27 yX12_dinner : Cond) ∈ wsA := mA (i := 1456) (by decide +kernel) rfl
theorem qw_1457 : (.instanceMethod yX12_dinner : Cond) ∈ wsA := mA (i := 1457) (by decide +kernel) rfl
theorem qw_1458 : (.selects RX12 yX12_dinner yX12_dinner : Cond) ∈ wsA := mA (i := 1458) (by decide +kernel) rfl
theorem qw_1459 : (.code yX12_dinner cX12_dinner 2 (some .int) : Cond) ∈ wsA := mA (i := 1459) (by decide +kernel) rfl
theorem qw_1464 : (.methodLink RL 35 yX12_force : Cond) ∈ wsA := mA (i := 1464) (by decide +kernel) rfl
theorem qw_1465 : (.instanceMethod yX12_force : Cond) ∈ wsA := mA (i := 1465) (by decide +kernel) rfl
theorem qw_1466 : (.selects RX12 yX12_force yX12_force : Cond) ∈ wsA := mA (i := 1466) (by decide +kernel) rfl
theorem qw_1467 : (.code yX12_force cX12_force 3 (some .int) : Cond) ∈ wsA := mA (i := 1467) (by decide +kernel) rfl
theorem qw_1472 : (.methodLink RL 40 yX12_dish : Cond) ∈ wsA := mA (i := 1472) (by decide +kernel) rfl
theorem qw_1473 : (.instanceMethod yX12_dish : Cond) ∈ wsA := mA (i := 1473) (by decide +kernel) rfl
theorem qw_1474 : (.selects RX12 yX12_dish yX12_dish : Cond) ∈ wsA := mA (i := 1474) (by decide +kernel) rfl
theorem qw_1475 : (.code yX12_dish cX12_dish 3 (some .int) : Cond) ∈ wsA := mA (i := 1475) (by decide +kernel) rfl
theorem qw_1481 : (.methodLink RL 44 yX12_guest : Cond) ∈ wsA := mA (i := 1481) (by decide +kernel) rfl
theorem qw_1482 : (.instanceMethod yX12_guest : Cond) ∈ wsA := mA (i := 1482) (by decide +kernel) rfl
theorem qw_1483 : (.selects RX12 yX12_guest yX12_guest : Cond) ∈ wsA := mA (i := 1483) (by decide +kernel) rfl
theorem qw_1484 : (.code yX12_guest cX12_guest 3 (some .int) : Cond) ∈ wsA := mA (i := 1484) (by decide +kernel) rfl
theorem qw_1489 : (.methodLink RL 48 yX12_clashes : Cond) ∈ wsA := mA (i := 1489) (by decide +kernel) rfl
theorem qw_1490 : (.instanceMethod yX12_clashes : Cond) ∈ wsA := mA (i := 1490) (by decide +kernel) rfl
theorem qw_1491 : (.selects RX12 yX12_clashes yX12_clashes : Cond) ∈ wsA := mA (i := 1491) (by decide +kernel) rfl
theorem qw_1492 : (.code yX12_clashes cX12_clashes 2 (some .int) : Cond) ∈ wsA := mA (i := 1492) (by decide +kernel) rfl
theorem qw_1502 : (.methodLink RL 52 yX12_throat : Cond) ∈ wsA := mA (i := 1502) (by decide +kernel) rfl
theorem qw_1503 : (.instanceMethod yX12_throat : Cond) ∈ wsA := mA (i := 1503) (by decide +kernel) rfl
theorem qw_1504 : (.selects RX12 yX12_throat yX12_throat : Cond) ∈ wsA := mA (i := 1504) (by decide +kernel) rfl
theorem qw_1505 : (.code yX12_throat cX12_throat 2 (some .int) : Cond) ∈ wsA := mA (i := 1505) (by decide +kernel) rfl
theorem qw_1510 : (.methodLink RL 76 yX12_undo : Cond) ∈ wsA := mA (i := 1510) (by decide +kernel) rfl
theorem qw_1511 : (.instanceMethod yX12_undo : Cond) ∈ wsA := mA (i := 1511) (by decide +kernel) rfl
theorem qw_1512 : (.selects RX12 yX12_undo yX12_undo : Cond) ∈ wsA := mA (i := 1512) (by decide +kernel) rfl
theorem qw_1513 : (.code yX12_undo cX12_undo 2 (some .int) : Cond) ∈ wsA := mA (i := 1513) (by decide +kernel) rfl
theorem qw_1514 : (.methodLink RL 56 yX12_minute : Cond) ∈ wsA := mA (i := 1514) (by decide +kernel) rfl
theorem qw_1515 : (.instanceMethod yX12_minute : Cond) ∈ wsA := mA (i := 1515) (by decide +kernel) rfl
theorem qw_1516 : (.selects RX12 yX12_minute yX12_minute : Cond) ∈ wsA := mA (i := 1516) (by decide +kernel) rfl
theorem qw_1517 : (.code yX12_minute cX12_minute 1 (some .int) : Cond) ∈ wsA := mA (i := 1517) (by decide +kernel) rfl
theorem qw_1599 : (.methodLink RL 60 yX12_offer : Cond) ∈ wsA := mA (i := 1599) (by decide +kernel) rfl
theorem qw_1600 : (.instanceMethod yX12_offer : Cond) ∈ wsA := mA (i := 1600) (by decide +kernel) rfl
theorem qw_1601 : (.selects RX12 yX12_offer yX12_offer : Cond) ∈ wsA := mA (i := 1601) (by decide +kernel) rfl
theorem qw_1602 : (.code yX12_offer cX12_offer 3 (some .int) : Cond) ∈ wsA := mA (i := 1602) (by decide +kernel) rfl
theorem qw_1603 : (.methodLink RL 64 yX12_serve : Cond) ∈ wsA := mA (i := 1603) (by decide +kernel) rfl
theorem qw_1604 : (.instanceMethod yX12_serve : Cond) ∈ wsA := mA (i := 1604) (by decide +kernel) rfl
theorem qw_1605 : (.selects RX12 yX12_serve yX12_serve : Cond) ∈ wsA := mA (i := 1605) (by decide +kernel) rfl
theorem qw_1606 : (.code yX12_serve cX12_serve 2 (some .int) : Cond) ∈ wsA := mA (i := 1606) (by decide +kernel) rfl
theorem qw_1607 : (.methodLink RL 68 yX12_fetch : Cond) ∈ wsA := mA (i := 1607) (by decide +kernel) rfl
theorem qw_1608 : (.instanceMethod yX12_fetch : Cond) ∈ wsA := mA (i := 1608) (by decide +kernel) rfl
theorem qw_1609 : (.selects RX12 yX12_fetch yX12_fetch : Cond) ∈ wsA := mA (i := 1609) (by decide +kernel) rfl
theorem qw_1610 : (.code yX12_fetch cX12_fetch 3 (some .int) : Cond) ∈ wsA := mA (i := 1610) (by decide +kernel) rfl
theorem qw_1611 : (.methodLink RL 72 yX12_tell : Cond) ∈ wsA := mA (i := 1611) (by decide +kernel) rfl
theorem qw_1612 : (.instanceMethod yX12_tell : Cond) ∈ wsA := mA (i := 1612) (by decide +kernel) rfl
theorem qw_1613 : (.selects RX12 yX12_tell yX12_tell : Cond) ∈ wsA := mA (i := 1613) (by decide +kernel) rfl
theorem qw_1614 : (.code yX12_tell cX12_tell 3 (some .int) : Cond) ∈ wsA := mA (i := 1614) (by decide +kernel) rfl
theorem qw_1615 : (.methodLink RL 81 yX12_ahead : Cond) ∈ wsA := mA (i := 1615) (by decide +kernel) rfl
theorem qw_1616 : (.instanceMethod yX12_ahead : Cond) ∈ wsA := mA (i := 1616) (by decide +kernel) rfl
theorem qw_1617 : (.selects RX12 yX12_ahead yX12_ahead : Cond) ∈ wsA := mA (i := 1617) (by decide +kernel) rfl
theorem qw_1618 : (.code yX12_ahead cX12_ahead 5 (some .int) : Cond) ∈ wsA := mA (i := 1618) (by decide +kernel) rfl
theorem qw_1632 : (.methodLink RL 85 yX12_said : Cond) ∈ wsA := mA (i := 1632) (by decide +kernel) rfl
theorem qw_1633 : (.instanceMethod yX12_said : Cond) ∈ wsA := mA (i := 1633) (by decide +kernel) rfl
theorem qw_1634 : (.selects RX12 yX12_said yX12_said : Cond) ∈ wsA := mA (i := 1634) (by decide +kernel) rfl
theorem qw_1635 : (.code yX12_said cX12_said 4 (some .int) : Cond) ∈ wsA := mA (i := 1635) (by decide +kernel) rfl
theorem qw_1640 : (.methodLink RL 89 yX12_quiet : Cond) ∈ wsA := mA (i := 1640) (by decide +kernel) rfl
theorem qw_1641 : (.instanceMethod yX12_quiet : Cond) ∈ wsA := mA (i := 1641) (by decide +kernel) rfl
theorem qw_1642 : (.selects RX12 yX12_quiet yX12_quiet : Cond) ∈ wsA := mA (i := 1642) (by decide +kernel) rfl
theorem qw_1643 : (.code yX12_quiet cX12_quiet 3 (some .int) : Cond) ∈ wsA := mA (i := 1643) (by decide +kernel) rfl
theorem qw_1644 : (.methodLink RL 93 yX12_knowing : Cond) ∈ wsA := mA (i := 1644) (by decide +kernel) rfl
theorem qw_1645 : (.instanceMethod yX12_knowing : Cond) ∈ wsA := mA (i := 1645) (by decide +kernel) rfl
theorem qw_1646 : (.selects RX12 yX12_knowing yX12_knowing : Cond) ∈ wsA := mA (i := 1646) (by decide +kernel) rfl
theorem qw_1647 : (.code yX12_knowing cX12_knowing 4 (some .int) : Cond) ∈ wsA := mA (i := 1647) (by decide +kernel) rfl
theorem qw_1648 : (.methodLink RL 97 yX12_bestRow : Cond) ∈ wsA := mA (i := 1648) (by decide +kernel) rfl
theorem qw_1649 : (.instanceMethod yX12_bestRow : Cond) ∈ wsA := mA (i := 1649) (by decide +kernel) rfl
theorem qw_1650 : (.selects RX12 yX12_bestRow yX12_bestRow : Cond) ∈ wsA := mA (i := 1650) (by decide +kernel) rfl
theorem qw_1651 : (.code yX12_bestRow cX12_bestRow 4 (some .int) : Cond) ∈ wsA := mA (i := 1651) (by decide +kernel) rfl
theorem qw_1681 : (.methodLink RL 101 yX12_hush : Cond) ∈ wsA := mA (i := 1681) (by decide +kernel) rfl
theorem qw_1682 : (.instanceMethod yX12_hush : Cond) ∈ wsA := mA (i := 1682) (by decide +kernel) rfl
theorem qw_1683 : (.selects RX12 yX12_hush yX12_hush : Cond) ∈ wsA := mA (i := 1683) (by decide +kernel) rfl
theorem qw_1684 : (.code yX12_hush cX12_hush 4 (some .int) : Cond) ∈ wsA := mA (i := 1684) (by decide +kernel) rfl
theorem qw_1685 : (.methodLink RL 105 yX12_rows : Cond) ∈ wsA := mA (i := 1685) (by decide +kernel) rfl
theorem qw_1686 : (.instanceMethod yX12_rows : Cond) ∈ wsA := mA (i := 1686) (by decide +kernel) rfl
theorem qw_1687 : (.selects RX12 yX12_rows yX12_rows : Cond) ∈ wsA := mA (i := 1687) (by decide +kernel) rfl
theorem qw_1688 : (.code yX12_rows cX12_rows 4 (some .int) : Cond) ∈ wsA := mA (i := 1688) (by decide +kernel) rfl
theorem qw_1701 : (.methodLink RL 109 yX12_believed : Cond) ∈ wsA := mA (i := 1701) (by decide +kernel) rfl
theorem qw_1702 : (.instanceMethod yX12_believed : Cond) ∈ wsA := mA (i := 1702) (by decide +kernel) rfl
theorem qw_1703 : (.selects RX12 yX12_believed yX12_believed : Cond) ∈ wsA := mA (i := 1703) (by decide +kernel) rfl
theorem qw_1704 : (.code yX12_believed cX12_believed 5 (some .int) : Cond) ∈ wsA := mA (i := 1704) (by decide +kernel) rfl
theorem qw_1705 : (.methodLink RL 113 yX12_dropped : Cond) ∈ wsA := mA (i := 1705) (by decide +kernel) rfl
theorem qw_1706 : (.instanceMethod yX12_dropped : Cond) ∈ wsA := mA (i := 1706) (by decide +kernel) rfl
theorem qw_1707 : (.selects RX12 yX12_dropped yX12_dropped : Cond) ∈ wsA := mA (i := 1707) (by decide +kernel) rfl
theorem qw_1708 : (.code yX12_dropped cX12_dropped 4 (some .int) : Cond) ∈ wsA := mA (i := 1708) (by decide +kernel) rfl
theorem qw_1709 : (.methodLink RL 117 yX12_leftOut : Cond) ∈ wsA := mA (i := 1709) (by decide +kernel) rfl
theorem qw_1710 : (.instanceMethod yX12_leftOut : Cond) ∈ wsA := mA (i := 1710) (by decide +kernel) rfl
theorem qw_1711 : (.selects RX12 yX12_leftOut yX12_leftOut : Cond) ∈ wsA := mA (i := 1711) (by decide +kernel) rfl
theorem qw_1712 : (.code yX12_leftOut cX12_leftOut 4 (some .int) : Cond) ∈ wsA := mA (i := 1712) (by decide +kernel) rfl
theorem qw_1718 : (.methodLink RL 122 yX12_rests : Cond) ∈ wsA := mA (i := 1718) (by decide +kernel) rfl
theorem qw_1719 : (.instanceMethod yX12_rests : Cond) ∈ wsA := mA (i := 1719) (by decide +kernel) rfl
theorem qw_1720 : (.selects RX12 yX12_rests yX12_rests : Cond) ∈ wsA := mA (i := 1720) (by decide +kernel) rfl
theorem qw_1721 : (.code yX12_rests cX12_rests 8 (some .int) : Cond) ∈ wsA := mA (i := 1721) (by decide +kernel) rfl
theorem qw_1735 : (.methodLink RL 126 yX12_crumbs : Cond) ∈ wsA := mA (i := 1735) (by decide +kernel) rfl
theorem qw_1736 : (.instanceMethod yX12_crumbs : Cond) ∈ wsA := mA (i := 1736) (by decide +kernel) rfl
theorem qw_1737 : (.selects RX12 yX12_crumbs yX12_crumbs : Cond) ∈ wsA := mA (i := 1737) (by decide +kernel) rfl
theorem qw_1738 : (.code yX12_crumbs cX12_crumbs 9 (some .int) : Cond) ∈ wsA := mA (i := 1738) (by decide +kernel) rfl
theorem qw_1740 : (.methodLink RL 130 yX12_loudest : Cond) ∈ wsA := mA (i := 1740) (by decide +kernel) rfl
theorem qw_1741 : (.instanceMethod yX12_loudest : Cond) ∈ wsA := mA (i := 1741) (by decide +kernel) rfl
theorem qw_1742 : (.selects RX12 yX12_loudest yX12_loudest : Cond) ∈ wsA := mA (i := 1742) (by decide +kernel) rfl
theorem qw_1743 : (.code yX12_loudest cX12_loudest 6 (some .int) : Cond) ∈ wsA := mA (i := 1743) (by decide +kernel) rfl
theorem qw_1744 : (.methodLink RL 134 yX12_note : Cond) ∈ wsA := mA (i := 1744) (by decide +kernel) rfl
theorem qw_1745 : (.instanceMethod yX12_note : Cond) ∈ wsA := mA (i := 1745) (by decide +kernel) rfl
theorem qw_1746 : (.selects RX12 yX12_note yX12_note : Cond) ∈ wsA := mA (i := 1746) (by decide +kernel) rfl
theorem qw_1747 : (.code yX12_note cX12_note 6 (some .int) : Cond) ∈ wsA := mA (i := 1747) (by decide +kernel) rfl
theorem qw_1749 : (.methodLink RL 138 yX12_ruled : Cond) ∈ wsA := mA (i := 1749) (by decide +kernel) rfl
theorem qw_1750 : (.instanceMethod yX12_ruled : Cond) ∈ wsA := mA (i := 1750) (by decide +kernel) rfl
theorem qw_1751 : (.selects RX12 yX12_ruled yX12_ruled : Cond) ∈ wsA := mA (i := 1751) (by decide +kernel) rfl
theorem qw_1752 : (.code yX12_ruled cX12_ruled 5 (some .int) : Cond) ∈ wsA := mA (i := 1752) (by decide +kernel) rfl
theorem qw_1757 : (.methodLink RL 142 yX12_look : Cond) ∈ wsA := mA (i := 1757) (by decide +kernel) rfl
theorem qw_1758 : (.instanceMethod yX12_look : Cond) ∈ wsA := mA (i := 1758) (by decide +kernel) rfl
theorem qw_1759 : (.selects RX12 yX12_look yX12_look : Cond) ∈ wsA := mA (i := 1759) (by decide +kernel) rfl
theorem qw_1760 : (.code yX12_look cX12_look 7 (some .int) : Cond) ∈ wsA := mA (i := 1760) (by decide +kernel) rfl
theorem qw_1765 : (.methodLink RL 146 yX12_seed : Cond) ∈ wsA := mA (i := 1765) (by decide +kernel) rfl
theorem qw_1766 : (.instanceMethod yX12_seed : Cond) ∈ wsA := mA (i := 1766) (by decide +kernel) rfl
theorem qw_1767 : (.selects RX12 yX12_seed yX12_seed : Cond) ∈ wsA := mA (i := 1767) (by decide +kernel) rfl
theorem qw_1768 : (.code yX12_seed cX12_seed 3 (some .int) : Cond) ∈ wsA := mA (i := 1768) (by decide +kernel) rfl
theorem qw_1769 : (.methodLink RL 150 yX12_hiccups : Cond) ∈ wsA := mA (i := 1769) (by decide +kernel) rfl
theorem qw_1770 : (.instanceMethod yX12_hiccups : Cond) ∈ wsA := mA (i := 1770) (by decide +kernel) rfl
theorem qw_1771 : (.selects RX12 yX12_hiccups yX12_hiccups : Cond) ∈ wsA := mA (i := 1771) (by decide +kernel) rfl
theorem qw_1772 : (.code yX12_hiccups cX12_hiccups 9 (some .int) : Cond) ∈ wsA := mA (i := 1772) (by decide +kernel) rfl
theorem qw_1786 : (.methodLink RL 154 yX12_count : Cond) ∈ wsA := mA (i := 1786) (by decide +kernel) rfl
theorem qw_1787 : (.instanceMethod yX12_count : Cond) ∈ wsA := mA (i := 1787) (by decide +kernel) rfl
theorem qw_1788 : (.selects RX12 yX12_count yX12_count : Cond) ∈ wsA := mA (i := 1788) (by decide +kernel) rfl
theorem qw_1789 : (.code yX12_count cX12_count 2 (some .int) : Cond) ∈ wsA := mA (i := 1789) (by decide +kernel) rfl
theorem qw_1790 : (.methodLink RL 158 yX12_image : Cond) ∈ wsA := mA (i := 1790) (by decide +kernel) rfl
theorem qw_1791 : (.instanceMethod yX12_image : Cond) ∈ wsA := mA (i := 1791) (by decide +kernel) rfl
theorem qw_1792 : (.selects RX12 yX12_image yX12_image : Cond) ∈ wsA := mA (i := 1792) (by decide +kernel) rfl
theorem qw_1793 : (.code yX12_image cX12_image 3 (some .int) : Cond) ∈ wsA := mA (i := 1793) (by decide +kernel) rfl
theorem qw_1795 : (.methodLink RL 162 yX12_back : Cond) ∈ wsA := mA (i := 1795) (by decide +kernel) rfl
theorem qw_1796 : (.instanceMethod yX12_back : Cond) ∈ wsA := mA (i := 1796) (by decide +kernel) rfl
theorem qw_1797 : (.selects RX12 yX12_back yX12_back : Cond) ∈ wsA := mA (i := 1797) (by decide +kernel) rfl
theorem qw_1798 : (.code yX12_back cX12_back 3 (some .int) : Cond) ∈ wsA := mA (i := 1798) (by decide +kernel) rfl
theorem dL_law_18 : decode cL_law 18 = .ok (.iload_n 3, 1) := by decide +kernel
theorem dL_law_19 : decode cL_law 19 = .ok (.aload_n 0, 1) := by decide +kernel
theorem dL_law_20 : decode cL_law 20 = .ok (.arraylength, 1) := by decide +kernel
theorem dL_law_21 : decode cL_law 21 = .ok (.bipush 6, 2) := by decide +kernel
theorem dL_law_23 : decode cL_law 23 = .ok (.isub, 1) := by decide +kernel
theorem dL_law_24 : decode cL_law 24 = .ok (.if_icmp .gt 1192, 3) := by decide +kernel
theorem dL_law_192 : decode cL_law 192 = .ok (.aload_n 1, 1) := by decide +kernel
theorem dL_law_193 : decode cL_law 193 = .ok (.aload_n 0, 1) := by decide +kernel
theorem dL_law_194 : decode cL_law 194 = .ok (.iload_n 3, 1) := by decide +kernel
theorem dL_law_195 : decode cL_law 195 = .ok (.iconst 1, 1) := by decide +kernel
theorem dL_law_196 : decode cL_law 196 = .ok (.iadd, 1) := by decide +kernel
theorem dL_law_197 : decode cL_law 197 = .ok (.iaload, 1) := by decide +kernel
theorem dL_law_198 : decode cL_law 198 = .ok (.aload_n 0, 1) := by decide +kernel
theorem dL_law_199 : decode cL_law 199 = .ok (.iload_n 3, 1) := by decide +kernel
theorem dL_law_200 : decode cL_law 200 = .ok (.iconst 2, 1) := by decide +kernel
theorem dL_law_201 : decode cL_law 201 = .ok (.iadd, 1) := by decide +kernel
theorem dL_law_202 : decode cL_law 202 = .ok (.iaload, 1) := by decide +kernel
theorem dL_law_203 : decode cL_law 203 = .ok (.aload_n 0, 1) := by decide +kernel
theorem dL_law_204 : decode cL_law 204 = .ok (.iload_n 3, 1) := by decide +kernel
theorem dL_law_205 : decode cL_law 205 = .ok (.iconst 3, 1) := by decide +kernel
theorem dL_law_206 : decode cL_law 206 = .ok (.iadd, 1) := by decide +kernel
theorem dL_law_207 : decode cL_law 207 = .ok (.iaload, 1) := by decide +kernel
theorem dL_law_208 : decode cL_law 208 = .ok (.aload_n 0, 1) := by decide +kernel
theorem dL_law_209 : decode cL_law 209 = .ok (.iload_n 3, 1) := by decide +kernel
theorem dL_law_210 : decode cL_law 210 = .ok (.iconst 4, 1) := by decide +kernel
theorem dL_law_211 : decode cL_law 211 = .ok (.iadd, 1) := by decide +kernel
theorem dL_law_212 : decode cL_law 212 = .ok (.iaload, 1) := by decide +kernel
theorem dL_law_213 : decode cL_law 213 = .ok (.aload_n 0, 1) := by decide +kernel
theorem dL_law_214 : decode cL_law 214 = .ok (.iload_n 3, 1) := by decide +kernel
theorem dL_law_215 : decode cL_law 215 = .ok (.iconst 5, 1) := by decide +kernel
theorem dL_law_216 : decode cL_law 216 = .ok (.iadd, 1) := by decide +kernel
theorem dL_law_217 : decode cL_law 217 = .ok (.iaload, 1) := by decide +kernel
theorem dL_law_218 : decode cL_law 218 = .ok (.invokevirtual 13, 3) := by decide +kernel
theorem dL_law_221 : decode cL_law 221 = .ok (.aload_n 2, 1) := by decide +kernel
theorem dL_law_222 : decode cL_law 222 = .ok (.aload_n 0, 1) := by decide +kernel
theorem dL_law_223 : decode cL_law 223 = .ok (.iload_n 3, 1) := by decide +kernel
theorem dL_law_224 : decode cL_law 224 = .ok (.iconst 1, 1) := by decide +kernel
theorem dL_law_225 : decode cL_law 225 = .ok (.iadd, 1) := by decide +kernel
theorem dL_law_226 : decode cL_law 226 = .ok (.iaload, 1) := by decide +kernel
theorem dL_law_227 : decode cL_law 227 = .ok (.aload_n 0, 1) := by decide +kernel
theorem dL_law_228 : decode cL_law 228 = .ok (.iload_n 3, 1) := by decide +kernel
theorem dL_law_229 : decode cL_law 229 = .ok (.iconst 2, 1) := by decide +kernel
theorem dL_law_230 : decode cL_law 230 = .ok (.iadd, 1) := by decide +kernel
theorem dL_law_231 : decode cL_law 231 = .ok (.iaload, 1) := by decide +kernel
theorem dL_law_232 : decode cL_law 232 = .ok (.aload_n 0, 1) := by decide +kernel
theorem dL_law_233 : decode cL_law 233 = .ok (.iload_n 3, 1) := by decide +kernel
theorem dL_law_234 : decode cL_law 234 = .ok (.iconst 3, 1) := by decide +kernel
theorem dL_law_235 : decode cL_law 235 = .ok (.iadd, 1) := by decide +kernel
theorem dL_law_236 : decode cL_law 236 = .ok (.iaload, 1) := by decide +kernel
theorem dL_law_237 : decode cL_law 237 = .ok (.aload_n 0, 1) := by decide +kernel
theorem dL_law_238 : decode cL_law 238 = .ok (.iload_n 3, 1) := by decide +kernel
theorem dL_law_239 : decode cL_law 239 = .ok (.iconst 4, 1) := by decide +kernel
theorem dL_law_240 : decode cL_law 240 = .ok (.iadd, 1) := by decide +kernel
theorem dL_law_241 : decode cL_law 241 = .ok (.iaload, 1) := by decide +kernel
theorem dL_law_242 : decode cL_law 242 = .ok (.aload_n 0, 1) := by decide +kernel
theorem dL_law_243 : decode cL_law 243 = .ok (.iload_n 3, 1) := by decide +kernel
theorem dL_law_244 : decode cL_law 244 = .ok (.iconst 5, 1) := by decide +kernel
theorem dL_law_245 : decode cL_law 245 = .ok (.iadd, 1) := by decide +kernel
theorem dL_law_246 : decode cL_law 246 = .ok (.iaload, 1) := by decide +kernel
theorem dL_law_247 : decode cL_law 247 = .ok (.invokevirtual 17, 3) := by decide +kernel
theorem dL_law_250 : decode cL_law 250 = .ok (.if_icmp .eq 960, 3) := by decide +kernel
theorem dL_law_255 : decode cL_law 255 = .ok (.aload_n 1, 1) := by decide +kernel
theorem dL_law_256 : decode cL_law 256 = .ok (.aload_n 0, 1) := by decide +kernel
theorem dL_law_257 : decode cL_law 257 = .ok (.iload_n 3, 1) := by decide +kernel
theorem dL_law_258 : decode cL_law 258 = .ok (.iconst 1, 1) := by decide +kernel
theorem dL_law_259 : decode cL_law 259 = .ok (.iadd, 1) := by decide +kernel
theorem dL_law_260 : decode cL_law 260 = .ok (.iaload, 1) := by decide +kernel
theorem dL_law_261 : decode cL_law 261 = .ok (.invokevirtual 18, 3) := by decide +kernel
theorem dL_law_264 : decode cL_law 264 = .ok (.aload_n 2, 1) := by decide +kernel
theorem dL_law_265 : decode cL_law 265 = .ok (.aload_n 0, 1) := by decide +kernel
theorem dL_law_266 : decode cL_law 266 = .ok (.iload_n 3, 1) := by decide +kernel
theorem dL_law_267 : decode cL_law 267 = .ok (.iconst 1, 1) := by decide +kernel
theorem dL_law_268 : decode cL_law 268 = .ok (.iadd, 1) := by decide +kernel
theorem dL_law_269 : decode cL_law 269 = .ok (.iaload, 1) := by decide +kernel
theorem dL_law_270 : decode cL_law 270 = .ok (.invokevirtual 22, 3) := by decide +kernel
theorem dL_law_273 : decode cL_law 273 = .ok (.if_icmp .eq 937, 3) := by decide +kernel
theorem dL_law_278 : decode cL_law 278 = .ok (.aload_n 1, 1) := by decide +kernel
theorem dL_law_279 : decode cL_law 279 = .ok (.invokevirtual 23, 3) := by decide +kernel
theorem dL_law_282 : decode cL_law 282 = .ok (.aload_n 2, 1) := by decide +kernel
theorem dL_law_283 : decode cL_law 283 = .ok (.invokevirtual 27, 3) := by decide +kernel
theorem dL_law_286 : decode cL_law 286 = .ok (.if_icmp .eq 924, 3) := by decide +kernel
theorem dL_law_291 : decode cL_law 291 = .ok (.aload_n 1, 1) := by decide +kernel
theorem dL_law_292 : decode cL_law 292 = .ok (.invokevirtual 28, 3) := by decide +kernel
theorem dL_law_295 : decode cL_law 295 = .ok (.aload_n 2, 1) := by decide +kernel
theorem dL_law_296 : decode cL_law 296 = .ok (.invokevirtual 31, 3) := by decide +kernel
theorem dL_law_299 : decode cL_law 299 = .ok (.if_icmp .eq 911, 3) := by decide +kernel
theorem dL_law_304 : decode cL_law 304 = .ok (.aload_n 1, 1) := by decide +kernel
theorem dL_law_305 : decode cL_law 305 = .ok (.aload_n 0, 1) := by decide +kernel
theorem dL_law_306 : decode cL_law 306 = .ok (.iload_n 3, 1) := by decide +kernel
theorem dL_law_307 : decode cL_law 307 = .ok (.iconst 1, 1) := by decide +kernel
theorem dL_law_308 : decode cL_law 308 = .ok (.iadd, 1) := by decide +kernel
theorem dL_law_309 : decode cL_law 309 = .ok (.iaload, 1) := by decide +kernel
theorem dL_law_310 : decode cL_law 310 = .ok (.invokevirtual 32, 3) := by decide +kernel
theorem dL_law_313 : decode cL_law 313 = .ok (.aload_n 2, 1) := by decide +kernel
theorem dL_law_314 : decode cL_law 314 = .ok (.aload_n 0, 1) := by decide +kernel
theorem dL_law_315 : decode cL_law 315 = .ok (.iload_n 3, 1) := by decide +kernel
theorem dL_law_316 : decode cL_law 316 = .ok (.iconst 1, 1) := by decide +kernel
theorem dL_law_317 : decode cL_law 317 = .ok (.iadd, 1) := by decide +kernel
theorem dL_law_318 : decode cL_law 318 = .ok (.iaload, 1) := by decide +kernel
theorem dL_law_319 : decode cL_law 319 = .ok (.invokevirtual 35, 3) := by decide +kernel
theorem dL_law_322 : decode cL_law 322 = .ok (.if_icmp .eq 888, 3) := by decide +kernel
theorem dL_law_327 : decode cL_law 327 = .ok (.aload_n 1, 1) := by decide +kernel
theorem dL_law_328 : decode cL_law 328 = .ok (.aload_n 0, 1) := by decide +kernel
theorem dL_law_329 : decode cL_law 329 = .ok (.iload_n 3, 1) := by decide +kernel
theorem dL_law_330 : decode cL_law 330 = .ok (.iconst 1, 1) := by decide +kernel
theorem dL_law_331 : decode cL_law 331 = .ok (.iadd, 1) := by decide +kernel
theorem dL_law_332 : decode cL_law 332 = .ok (.iaload, 1) := by decide +kernel
theorem dL_law_333 : decode cL_law 333 = .ok (.aload_n 0, 1) := by decide +kernel
theorem dL_law_334 : decode cL_law 334 = .ok (.iload_n 3, 1) := by decide +kernel
theorem dL_law_335 : decode cL_law 335 = .ok (.iconst 2, 1) := by decide +kernel
theorem dL_law_336 : decode cL_law 336 = .ok (.iadd, 1) := by decide +kernel
theorem dL_law_337 : decode cL_law 337 = .ok (.iaload, 1) := by decide +kernel
theorem dL_law_338 : decode cL_law 338 = .ok (.invokevirtual 36, 3) := by decide +kernel
theorem dL_law_341 : decode cL_law 341 = .ok (.aload_n 2, 1) := by decide +kernel
theorem dL_law_342 : decode cL_law 342 = .ok (.aload_n 0, 1) := by decide +kernel
theorem dL_law_343 : decode cL_law 343 = .ok (.iload_n 3, 1) := by decide +kernel
theorem dL_law_344 : decode cL_law 344 = .ok (.iconst 1, 1) := by decide +kernel
theorem dL_law_345 : decode cL_law 345 = .ok (.iadd, 1) := by decide +kernel
theorem dL_law_346 : decode cL_law 346 = .ok (.iaload, 1) := by decide +kernel
theorem dL_law_347 : decode cL_law 347 = .ok (.aload_n 0, 1) := by decide +kernel
theorem dL_law_348 : decode cL_law 348 = .ok (.iload_n 3, 1) := by decide +kernel
theorem dL_law_349 : decode cL_law 349 = .ok (.iconst 2, 1) := by decide +kernel
theorem dL_law_350 : decode cL_law 350 = .ok (.iadd, 1) := by decide +kernel
theorem dL_law_351 : decode cL_law 351 = .ok (.iaload, 1) := by decide +kernel
theorem dL_law_352 : decode cL_law 352 = .ok (.invokevirtual 40, 3) := by decide +kernel
theorem dL_law_355 : decode cL_law 355 = .ok (.if_icmp .eq 855, 3) := by decide +kernel
theorem dL_law_360 : decode cL_law 360 = .ok (.aload_n 1, 1) := by decide +kernel
theorem dL_law_361 : decode cL_law 361 = .ok (.aload_n 0, 1) := by decide +kernel
theorem dL_law_362 : decode cL_law 362 = .ok (.iload_n 3, 1) := by decide +kernel
theorem dL_law_363 : decode cL_law 363 = .ok (.iconst 1, 1) := by decide +kernel
theorem dL_law_364 : decode cL_law 364 = .ok (.iadd, 1) := by decide +kernel
theorem dL_law_365 : decode cL_law 365 = .ok (.iaload, 1) := by decide +kernel
theorem dL_law_366 : decode cL_law 366 = .ok (.aload_n 0, 1) := by decide +kernel
theorem dL_law_367 : decode cL_law 367 = .ok (.iload_n 3, 1) := by decide +kernel
theorem dL_law_368 : decode cL_law 368 = .ok (.iconst 2, 1) := by decide +kernel
theorem dL_law_369 : decode cL_law 369 = .ok (.iadd, 1) := by decide +kernel
theorem dL_law_370 : decode cL_law 370 = .ok (.iaload, 1) := by decide +kernel
theorem dL_law_371 : decode cL_law 371 = .ok (.invokevirtual 41, 3) := by decide +kernel
theorem dL_law_374 : decode cL_law 374 = .ok (.aload_n 2, 1) := by decide +kernel
theorem dL_law_375 : decode cL_law 375 = .ok (.aload_n 0, 1) := by decide +kernel
theorem dL_law_376 : decode cL_law 376 = .ok (.iload_n 3, 1) := by decide +kernel
theorem dL_law_377 : decode cL_law 377 = .ok (.iconst 1, 1) := by decide +kernel
theorem dL_law_378 : decode cL_law 378 = .ok (.iadd, 1) := by decide +kernel
theorem dL_law_379 : decode cL_law 379 = .ok (.iaload, 1) := by decide +kernel
theorem dL_law_380 : decode cL_law 380 = .ok (.aload_n 0, 1) := by decide +kernel
theorem dL_law_381 : decode cL_law 381 = .ok (.iload_n 3, 1) := by decide +kernel
theorem dL_law_382 : decode cL_law 382 = .ok (.iconst 2, 1) := by decide +kernel
theorem dL_law_383 : decode cL_law 383 = .ok (.iadd, 1) := by decide +kernel
theorem dL_law_384 : decode cL_law 384 = .ok (.iaload, 1) := by decide +kernel
theorem dL_law_385 : decode cL_law 385 = .ok (.invokevirtual 44, 3) := by decide +kernel
theorem dL_law_388 : decode cL_law 388 = .ok (.if_icmp .eq 822, 3) := by decide +kernel
theorem dL_law_393 : decode cL_law 393 = .ok (.aload_n 1, 1) := by decide +kernel
theorem dL_law_394 : decode cL_law 394 = .ok (.aload_n 0, 1) := by decide +kernel
theorem dL_law_395 : decode cL_law 395 = .ok (.iload_n 3, 1) := by decide +kernel
theorem dL_law_396 : decode cL_law 396 = .ok (.iconst 1, 1) := by decide +kernel
theorem dL_law_397 : decode cL_law 397 = .ok (.iadd, 1) := by decide +kernel
theorem dL_law_398 : decode cL_law 398 = .ok (.iaload, 1) := by decide +kernel
theorem dL_law_399 : decode cL_law 399 = .ok (.invokevirtual 45, 3) := by decide +kernel
theorem dL_law_402 : decode cL_law 402 = .ok (.aload_n 2, 1) := by decide +kernel
theorem dL_law_403 : decode cL_law 403 = .ok (.aload_n 0, 1) := by decide +kernel
theorem dL_law_404 : decode cL_law 404 = .ok (.iload_n 3, 1) := by decide +kernel
theorem dL_law_405 : decode cL_law 405 = .ok (.iconst 1, 1) := by decide +kernel
theorem dL_law_406 : decode cL_law 406 = .ok (.iadd, 1) := by decide +kernel
theorem dL_law_407 : decode cL_law 407 = .ok (.iaload, 1) := by decide +kernel
theorem dL_law_408 : decode cL_law 408 = .ok (.invokevirtual 48, 3) := by decide +kernel
theorem dL_law_411 : decode cL_law 411 = .ok (.if_icmp .eq 799, 3) := by decide +kernel
theorem dL_law_416 : decode cL_law 416 = .ok (.aload_n 1, 1) := by decide +kernel
theorem dL_law_417 : decode cL_law 417 = .ok (.aload_n 0, 1) := by decide +kernel
theorem dL_law_418 : decode cL_law 418 = .ok (.iload_n 3, 1) := by decide +kernel
theorem dL_law_419 : decode cL_law 419 = .ok (.iconst 1, 1) := by decide +kernel
theorem dL_law_420 : decode cL_law 420 = .ok (.iadd, 1) := by decide +kernel
theorem dL_law_421 : decode cL_law 421 = .ok (.iaload, 1) := by decide +kernel
theorem dL_law_422 : decode cL_law 422 = .ok (.invokevirtual 49, 3) := by decide +kernel
theorem dL_law_425 : decode cL_law 425 = .ok (.aload_n 2, 1) := by decide +kernel
theorem dL_law_426 : decode cL_law 426 = .ok (.aload_n 0, 1) := by decide +kernel
theorem dL_law_427 : decode cL_law 427 = .ok (.iload_n 3, 1) := by decide +kernel
theorem dL_law_428 : decode cL_law 428 = .ok (.iconst 1, 1) := by decide +kernel
theorem dL_law_429 : decode cL_law 429 = .ok (.iadd, 1) := by decide +kernel
theorem dL_law_430 : decode cL_law 430 = .ok (.iaload, 1) := by decide +kernel
theorem dL_law_431 : decode cL_law 431 = .ok (.invokevirtual 52, 3) := by decide +kernel
theorem dL_law_434 : decode cL_law 434 = .ok (.if_icmp .eq 776, 3) := by decide +kernel
theorem dL_law_439 : decode cL_law 439 = .ok (.aload_n 1, 1) := by decide +kernel
theorem dL_law_440 : decode cL_law 440 = .ok (.invokevirtual 53, 3) := by decide +kernel
theorem dL_law_443 : decode cL_law 443 = .ok (.aload_n 2, 1) := by decide +kernel
theorem dL_law_444 : decode cL_law 444 = .ok (.invokevirtual 56, 3) := by decide +kernel
theorem dL_law_447 : decode cL_law 447 = .ok (.if_icmp .eq 763, 3) := by decide +kernel
theorem dL_law_452 : decode cL_law 452 = .ok (.aload_n 1, 1) := by decide +kernel
theorem dL_law_453 : decode cL_law 453 = .ok (.aload_n 0, 1) := by decide +kernel
theorem dL_law_454 : decode cL_law 454 = .ok (.iload_n 3, 1) := by decide +kernel
theorem dL_law_455 : decode cL_law 455 = .ok (.iconst 1, 1) := by decide +kernel
theorem dL_law_456 : decode cL_law 456 = .ok (.iadd, 1) := by decide +kernel
theorem dL_law_457 : decode cL_law 457 = .ok (.iaload, 1) := by decide +kernel
theorem dL_law_458 : decode cL_law 458 = .ok (.invokevirtual 57, 3) := by decide +kernel
theorem dL_law_461 : decode cL_law 461 = .ok (.aload_n 2, 1) := by decide +kernel
theorem dL_law_462 : decode cL_law 462 = .ok (.aload_n 0, 1) := by decide +kernel
theorem dL_law_463 : decode cL_law 463 = .ok (.iload_n 3, 1) := by decide +kernel
theorem dL_law_464 : decode cL_law 464 = .ok (.iconst 1, 1) := by decide +kernel
theorem dL_law_465 : decode cL_law 465 = .ok (.iadd, 1) := by decide +kernel
theorem dL_law_466 : decode cL_law 466 = .ok (.iaload, 1) := by decide +kernel
theorem dL_law_467 : decode cL_law 467 = .ok (.invokevirtual 60, 3) := by decide +kernel
theorem dL_law_470 : decode cL_law 470 = .ok (.if_icmp .eq 740, 3) := by decide +kernel
theorem dL_law_475 : decode cL_law 475 = .ok (.aload_n 1, 1) := by decide +kernel
theorem dL_law_476 : decode cL_law 476 = .ok (.aload_n 0, 1) := by decide +kernel
theorem dL_law_477 : decode cL_law 477 = .ok (.iload_n 3, 1) := by decide +kernel
theorem dL_law_478 : decode cL_law 478 = .ok (.iconst 1, 1) := by decide +kernel
theorem dL_law_479 : decode cL_law 479 = .ok (.iadd, 1) := by decide +kernel
theorem dL_law_480 : decode cL_law 480 = .ok (.iaload, 1) := by decide +kernel
theorem dL_law_481 : decode cL_law 481 = .ok (.invokevirtual 61, 3) := by decide +kernel
theorem dL_law_484 : decode cL_law 484 = .ok (.aload_n 2, 1) := by decide +kernel
theorem dL_law_485 : decode cL_law 485 = .ok (.aload_n 0, 1) := by decide +kernel
theorem dL_law_486 : decode cL_law 486 = .ok (.iload_n 3, 1) := by decide +kernel
theorem dL_law_487 : decode cL_law 487 = .ok (.iconst 1, 1) := by decide +kernel
theorem dL_law_488 : decode cL_law 488 = .ok (.iadd, 1) := by decide +kernel
theorem dL_law_489 : decode cL_law 489 = .ok (.iaload, 1) := by decide +kernel
theorem dL_law_490 : decode cL_law 490 = .ok (.invokevirtual 64, 3) := by decide +kernel
theorem dL_law_493 : decode cL_law 493 = .ok (.if_icmp .eq 717, 3) := by decide +kernel
theorem dL_law_498 : decode cL_law 498 = .ok (.aload_n 1, 1) := by decide +kernel
theorem dL_law_499 : decode cL_law 499 = .ok (.aload_n 0, 1) := by decide +kernel
theorem dL_law_500 : decode cL_law 500 = .ok (.iload_n 3, 1) := by decide +kernel
theorem dL_law_501 : decode cL_law 501 = .ok (.iconst 1, 1) := by decide +kernel
theorem dL_law_502 : decode cL_law 502 = .ok (.iadd, 1) := by decide +kernel
theorem dL_law_503 : decode cL_law 503 = .ok (.iaload, 1) := by decide +kernel
theorem dL_law_504 : decode cL_law 504 = .ok (.invokevirtual 65, 3) := by decide +kernel
theorem dL_law_507 : decode cL_law 507 = .ok (.aload_n 2, 1) := by decide +kernel
theorem dL_law_508 : decode cL_law 508 = .ok (.aload_n 0, 1) := by decide +kernel
theorem dL_law_509 : decode cL_law 509 = .ok (.iload_n 3, 1) := by decide +kernel
theorem dL_law_510 : decode cL_law 510 = .ok (.iconst 1, 1) := by decide +kernel
theorem dL_law_511 : decode cL_law 511 = .ok (.iadd, 1) := by decide +kernel
theorem dL_law_512 : decode cL_law 512 = .ok (.iaload, 1) := by decide +kernel
theorem dL_law_513 : decode cL_law 513 = .ok (.invokevirtual 68, 3) := by decide +kernel
theorem dL_law_516 : decode cL_law 516 = .ok (.if_icmp .eq 694, 3) := by decide +kernel
theorem dL_law_521 : decode cL_law 521 = .ok (.aload_n 1, 1) := by decide +kernel
theorem dL_law_522 : decode cL_law 522 = .ok (.aload_n 0, 1) := by decide +kernel
theorem dL_law_523 : decode cL_law 523 = .ok (.iload_n 3, 1) := by decide +kernel
theorem dL_law_524 : decode cL_law 524 = .ok (.iconst 1, 1) := by decide +kernel
theorem dL_law_525 : decode cL_law 525 = .ok (.iadd, 1) := by decide +kernel
theorem dL_law_526 : decode cL_law 526 = .ok (.iaload, 1) := by decide +kernel
theorem dL_law_527 : decode cL_law 527 = .ok (.aload_n 0, 1) := by decide +kernel
theorem dL_law_528 : decode cL_law 528 = .ok (.iload_n 3, 1) := by decide +kernel
theorem dL_law_529 : decode cL_law 529 = .ok (.iconst 2, 1) := by decide +kernel
theorem dL_law_530 : decode cL_law 530 = .ok (.iadd, 1) := by decide +kernel
theorem dL_law_531 : decode cL_law 531 = .ok (.iaload, 1) := by decide +kernel
theorem dL_law_532 : decode cL_law 532 = .ok (.invokevirtual 69, 3) := by decide +kernel
theorem dL_law_535 : decode cL_law 535 = .ok (.aload_n 2, 1) := by decide +kernel
theorem dL_law_536 : decode cL_law 536 = .ok (.aload_n 0, 1) := by decide +kernel
theorem dL_law_537 : decode cL_law 537 = .ok (.iload_n 3, 1) := by decide +kernel
theorem dL_law_538 : decode cL_law 538 = .ok (.iconst 1, 1) := by decide +kernel
theorem dL_law_539 : decode cL_law 539 = .ok (.iadd, 1) := by decide +kernel
theorem dL_law_540 : decode cL_law 540 = .ok (.iaload, 1) := by decide +kernel
theorem dL_law_541 : decode cL_law 541 = .ok (.aload_n 0, 1) := by decide +kernel
theorem dL_law_542 : decode cL_law 542 = .ok (.iload_n 3, 1) := by decide +kernel
theorem dL_law_543 : decode cL_law 543 = .ok (.iconst 2, 1) := by decide +kernel
theorem dL_law_544 : decode cL_law 544 = .ok (.iadd, 1) := by decide +kernel
theorem dL_law_545 : decode cL_law 545 = .ok (.iaload, 1) := by decide +kernel
theorem dL_law_546 : decode cL_law 546 = .ok (.invokevirtual 72, 3) := by decide +kernel
theorem dL_law_549 : decode cL_law 549 = .ok (.if_icmp .eq 661, 3) := by decide +kernel
theorem dL_law_554 : decode cL_law 554 = .ok (.aload_n 1, 1) := by decide +kernel
theorem dL_law_555 : decode cL_law 555 = .ok (.invokevirtual 73, 3) := by decide +kernel
theorem dL_law_558 : decode cL_law 558 = .ok (.aload_n 2, 1) := by decide +kernel
theorem dL_law_559 : decode cL_law 559 = .ok (.invokevirtual 76, 3) := by decide +kernel
theorem dL_law_562 : decode cL_law 562 = .ok (.if_icmp .eq 648, 3) := by decide +kernel
theorem dL_law_567 : decode cL_law 567 = .ok (.aload_n 1, 1) := by decide +kernel
theorem dL_law_568 : decode cL_law 568 = .ok (.aload_n 0, 1) := by decide +kernel
theorem dL_law_569 : decode cL_law 569 = .ok (.iload_n 3, 1) := by decide +kernel
theorem dL_law_570 : decode cL_law 570 = .ok (.iconst 1, 1) := by decide +kernel
theorem dL_law_571 : decode cL_law 571 = .ok (.iadd, 1) := by decide +kernel
theorem dL_law_572 : decode cL_law 572 = .ok (.iaload, 1) := by decide +kernel
theorem dL_law_573 : decode cL_law 573 = .ok (.aload_n 0, 1) := by decide +kernel
theorem dL_law_574 : decode cL_law 574 = .ok (.iload_n 3, 1) := by decide +kernel
theorem dL_law_575 : decode cL_law 575 = .ok (.iconst 2, 1) := by decide +kernel
theorem dL_law_576 : decode cL_law 576 = .ok (.iadd, 1) := by decide +kernel
theorem dL_law_577 : decode cL_law 577 = .ok (.iaload, 1) := by decide +kernel
theorem dL_law_578 : decode cL_law 578 = .ok (.aload_n 0, 1) := by decide +kernel
theorem dL_law_579 : decode cL_law 579 = .ok (.iload_n 3, 1) := by decide +kernel
theorem dL_law_580 : decode cL_law 580 = .ok (.iconst 3, 1) := by decide +kernel
theorem dL_law_581 : decode cL_law 581 = .ok (.iadd, 1) := by decide +kernel
theorem dL_law_582 : decode cL_law 582 = .ok (.iaload, 1) := by decide +kernel
theorem dL_law_583 : decode cL_law 583 = .ok (.invokevirtual 77, 3) := by decide +kernel
theorem dL_law_586 : decode cL_law 586 = .ok (.aload_n 2, 1) := by decide +kernel
theorem dL_law_587 : decode cL_law 587 = .ok (.aload_n 0, 1) := by decide +kernel
theorem dL_law_588 : decode cL_law 588 = .ok (.iload_n 3, 1) := by decide +kernel
theorem dL_law_589 : decode cL_law 589 = .ok (.iconst 1, 1) := by decide +kernel
theorem dL_law_590 : decode cL_law 590 = .ok (.iadd, 1) := by decide +kernel
theorem dL_law_591 : decode cL_law 591 = .ok (.iaload, 1) := by decide +kernel
theorem dL_law_592 : decode cL_law 592 = .ok (.aload_n 0, 1) := by decide +kernel
theorem dL_law_593 : decode cL_law 593 = .ok (.iload_n 3, 1) := by decide +kernel
theorem dL_law_594 : decode cL_law 594 = .ok (.iconst 2, 1) := by decide +kernel
theorem dL_law_595 : decode cL_law 595 = .ok (.iadd, 1) := by decide +kernel
theorem dL_law_596 : decode cL_law 596 = .ok (.iaload, 1) := by decide +kernel
theorem dL_law_597 : decode cL_law 597 = .ok (.aload_n 0, 1) := by decide +kernel
theorem dL_law_598 : decode cL_law 598 = .ok (.iload_n 3, 1) := by decide +kernel
theorem dL_law_599 : decode cL_law 599 = .ok (.iconst 3, 1) := by decide +kernel
theorem dL_law_600 : decode cL_law 600 = .ok (.iadd, 1) := by decide +kernel
theorem dL_law_601 : decode cL_law 601 = .ok (.iaload, 1) := by decide +kernel
theorem dL_law_602 : decode cL_law 602 = .ok (.invokevirtual 81, 3) := by decide +kernel
theorem dL_law_605 : decode cL_law 605 = .ok (.if_icmp .eq 605, 3) := by decide +kernel
theorem dL_law_610 : decode cL_law 610 = .ok (.aload_n 1, 1) := by decide +kernel
theorem dL_law_611 : decode cL_law 611 = .ok (.aload_n 0, 1) := by decide +kernel
theorem dL_law_612 : decode cL_law 612 = .ok (.iload_n 3, 1) := by decide +kernel
theorem dL_law_613 : decode cL_law 613 = .ok (.iconst 1, 1) := by decide +kernel
theorem dL_law_614 : decode cL_law 614 = .ok (.iadd, 1) := by decide +kernel
theorem dL_law_615 : decode cL_law 615 = .ok (.iaload, 1) := by decide +kernel
theorem dL_law_616 : decode cL_law 616 = .ok (.invokevirtual 82, 3) := by decide +kernel
theorem dL_law_619 : decode cL_law 619 = .ok (.aload_n 2, 1) := by decide +kernel
theorem dL_law_620 : decode cL_law 620 = .ok (.aload_n 0, 1) := by decide +kernel
theorem dL_law_621 : decode cL_law 621 = .ok (.iload_n 3, 1) := by decide +kernel
theorem dL_law_622 : decode cL_law 622 = .ok (.iconst 1, 1) := by decide +kernel
theorem dL_law_623 : decode cL_law 623 = .ok (.iadd, 1) := by decide +kernel
theorem dL_law_624 : decode cL_law 624 = .ok (.iaload, 1) := by decide +kernel
theorem dL_law_625 : decode cL_law 625 = .ok (.invokevirtual 85, 3) := by decide +kernel
theorem dL_law_628 : decode cL_law 628 = .ok (.if_icmp .eq 582, 3) := by decide +kernel
theorem dL_law_633 : decode cL_law 633 = .ok (.aload_n 1, 1) := by decide +kernel
theorem dL_law_634 : decode cL_law 634 = .ok (.invokevirtual 86, 3) := by decide +kernel
theorem dL_law_637 : decode cL_law 637 = .ok (.aload_n 2, 1) := by decide +kernel
theorem dL_law_638 : decode cL_law 638 = .ok (.invokevirtual 89, 3) := by decide +kernel
theorem dL_law_641 : decode cL_law 641 = .ok (.if_icmp .eq 569, 3) := by decide +kernel
theorem dL_law_646 : decode cL_law 646 = .ok (.aload_n 1, 1) := by decide +kernel
theorem dL_law_647 : decode cL_law 647 = .ok (.aload_n 0, 1) := by decide +kernel
theorem dL_law_648 : decode cL_law 648 = .ok (.iload_n 3, 1) := by decide +kernel
theorem dL_law_649 : decode cL_law 649 = .ok (.iconst 1, 1) := by decide +kernel
theorem dL_law_650 : decode cL_law 650 = .ok (.iadd, 1) := by decide +kernel
theorem dL_law_651 : decode cL_law 651 = .ok (.iaload, 1) := by decide +kernel
theorem dL_law_652 : decode cL_law 652 = .ok (.invokevirtual 90, 3) := by decide +kernel
theorem dL_law_655 : decode cL_law 655 = .ok (.aload_n 2, 1) := by decide +kernel
theorem dL_law_656 : decode cL_law 656 = .ok (.aload_n 0, 1) := by decide +kernel
theorem dL_law_657 : decode cL_law 657 = .ok (.iload_n 3, 1) := by decide +kernel
theorem dL_law_658 : decode cL_law 658 = .ok (.iconst 1, 1) := by decide +kernel
theorem dL_law_659 : decode cL_law 659 = .ok (.iadd, 1) := by decide +kernel
theorem dL_law_660 : decode cL_law 660 = .ok (.iaload, 1) := by decide +kernel
theorem dL_law_661 : decode cL_law 661 = .ok (.invokevirtual 93, 3) := by decide +kernel
theorem dL_law_664 : decode cL_law 664 = .ok (.if_icmp .eq 546, 3) := by decide +kernel
theorem dL_law_669 : decode cL_law 669 = .ok (.aload_n 1, 1) := by decide +kernel
theorem dL_law_670 : decode cL_law 670 = .ok (.aload_n 0, 1) := by decide +kernel
theorem dL_law_671 : decode cL_law 671 = .ok (.iload_n 3, 1) := by decide +kernel
theorem dL_law_672 : decode cL_law 672 = .ok (.iconst 1, 1) := by decide +kernel
theorem dL_law_673 : decode cL_law 673 = .ok (.iadd, 1) := by decide +kernel
theorem dL_law_674 : decode cL_law 674 = .ok (.iaload, 1) := by decide +kernel
theorem dL_law_675 : decode cL_law 675 = .ok (.aload_n 0, 1) := by decide +kernel
theorem dL_law_676 : decode cL_law 676 = .ok (.iload_n 3, 1) := by decide +kernel
theorem dL_law_677 : decode cL_law 677 = .ok (.iconst 2, 1) := by decide +kernel
theorem dL_law_678 : decode cL_law 678 = .ok (.iadd, 1) := by decide +kernel
theorem dL_law_679 : decode cL_law 679 = .ok (.iaload, 1) := by decide +kernel
theorem dL_law_680 : decode cL_law 680 = .ok (.invokevirtual 94, 3) := by decide +kernel
theorem dL_law_683 : decode cL_law 683 = .ok (.aload_n 2, 1) := by decide +kernel
theorem dL_law_684 : decode cL_law 684 = .ok (.aload_n 0, 1) := by decide +kernel
theorem dL_law_685 : decode cL_law 685 = .ok (.iload_n 3, 1) := by decide +kernel
theorem dL_law_686 : decode cL_law 686 = .ok (.iconst 1, 1) := by decide +kernel
theorem dL_law_687 : decode cL_law 687 = .ok (.iadd, 1) := by decide +kernel
theorem dL_law_688 : decode cL_law 688 = .ok (.iaload, 1) := by decide +kernel
theorem dL_law_689 : decode cL_law 689 = .ok (.aload_n 0, 1) := by decide +kernel
theorem dL_law_690 : decode cL_law 690 = .ok (.iload_n 3, 1) := by decide +kernel
theorem dL_law_691 : decode cL_law 691 = .ok (.iconst 2, 1) := by decide +kernel
theorem dL_law_692 : decode cL_law 692 = .ok (.iadd, 1) := by decide +kernel
theorem dL_law_693 : decode cL_law 693 = .ok (.iaload, 1) := by decide +kernel
theorem dL_law_694 : decode cL_law 694 = .ok (.invokevirtual 97, 3) := by decide +kernel
theorem dL_law_697 : decode cL_law 697 = .ok (.if_icmp .eq 513, 3) := by decide +kernel
theorem dL_law_702 : decode cL_law 702 = .ok (.aload_n 1, 1) := by decide +kernel
theorem dL_law_703 : decode cL_law 703 = .ok (.aload_n 0, 1) := by decide +kernel
theorem dL_law_704 : decode cL_law 704 = .ok (.iload_n 3, 1) := by decide +kernel
theorem dL_law_705 : decode cL_law 705 = .ok (.iconst 1, 1) := by decide +kernel
theorem dL_law_706 : decode cL_law 706 = .ok (.iadd, 1) := by decide +kernel
theorem dL_law_707 : decode cL_law 707 = .ok (.iaload, 1) := by decide +kernel
theorem dL_law_708 : decode cL_law 708 = .ok (.aload_n 0, 1) := by decide +kernel
theorem dL_law_709 : decode cL_law 709 = .ok (.iload_n 3, 1) := by decide +kernel
theorem dL_law_710 : decode cL_law 710 = .ok (.iconst 2, 1) := by decide +kernel
theorem dL_law_711 : decode cL_law 711 = .ok (.iadd, 1) := by decide +kernel
theorem dL_law_712 : decode cL_law 712 = .ok (.iaload, 1) := by decide +kernel
theorem dL_law_713 : decode cL_law 713 = .ok (.invokevirtual 98, 3) := by decide +kernel
theorem dL_law_716 : decode cL_law 716 = .ok (.aload_n 2, 1) := by decide +kernel
theorem dL_law_717 : decode cL_law 717 = .ok (.aload_n 0, 1) := by decide +kernel
theorem dL_law_718 : decode cL_law 718 = .ok (.iload_n 3, 1) := by decide +kernel
theorem dL_law_719 : decode cL_law 719 = .ok (.iconst 1, 1) := by decide +kernel
theorem dL_law_720 : decode cL_law 720 = .ok (.iadd, 1) := by decide +kernel
theorem dL_law_721 : decode cL_law 721 = .ok (.iaload, 1) := by decide +kernel
theorem dL_law_722 : decode cL_law 722 = .ok (.aload_n 0, 1) := by decide +kernel
theorem dL_law_723 : decode cL_law 723 = .ok (.iload_n 3, 1) := by decide +kernel
theorem dL_law_724 : decode cL_law 724 = .ok (.iconst 2, 1) := by decide +kernel
theorem dL_law_725 : decode cL_law 725 = .ok (.iadd, 1) := by decide +kernel
theorem dL_law_726 : decode cL_law 726 = .ok (.iaload, 1) := by decide +kernel
theorem dL_law_727 : decode cL_law 727 = .ok (.invokevirtual 101, 3) := by decide +kernel
theorem dL_law_730 : decode cL_law 730 = .ok (.if_icmp .eq 480, 3) := by decide +kernel
theorem dL_law_735 : decode cL_law 735 = .ok (.aload_n 1, 1) := by decide +kernel
theorem dL_law_736 : decode cL_law 736 = .ok (.aload_n 0, 1) := by decide +kernel
theorem dL_law_737 : decode cL_law 737 = .ok (.iload_n 3, 1) := by decide +kernel
theorem dL_law_738 : decode cL_law 738 = .ok (.iconst 1, 1) := by decide +kernel
theorem dL_law_739 : decode cL_law 739 = .ok (.iadd, 1) := by decide +kernel
theorem dL_law_740 : decode cL_law 740 = .ok (.iaload, 1) := by decide +kernel
theorem dL_law_741 : decode cL_law 741 = .ok (.invokevirtual 102, 3) := by decide +kernel
theorem dL_law_744 : decode cL_law 744 = .ok (.aload_n 2, 1) := by decide +kernel
theorem dL_law_745 : decode cL_law 745 = .ok (.aload_n 0, 1) := by decide +kernel
theorem dL_law_746 : decode cL_law 746 = .ok (.iload_n 3, 1) := by decide +kernel
theorem dL_law_747 : decode cL_law 747 = .ok (.iconst 1, 1) := by decide +kernel
theorem dL_law_748 : decode cL_law 748 = .ok (.iadd, 1) := by decide +kernel
theorem dL_law_749 : decode cL_law 749 = .ok (.iaload, 1) := by decide +kernel
theorem dL_law_750 : decode cL_law 750 = .ok (.invokevirtual 105, 3) := by decide +kernel
theorem dL_law_753 : decode cL_law 753 = .ok (.if_icmp .eq 457, 3) := by decide +kernel
theorem dL_law_758 : decode cL_law 758 = .ok (.aload_n 1, 1) := by decide +kernel
theorem dL_law_759 : decode cL_law 759 = .ok (.aload_n 0, 1) := by decide +kernel
theorem dL_law_760 : decode cL_law 760 = .ok (.iload_n 3, 1) := by decide +kernel
theorem dL_law_761 : decode cL_law 761 = .ok (.iconst 1, 1) := by decide +kernel
theorem dL_law_762 : decode cL_law 762 = .ok (.iadd, 1) := by decide +kernel
theorem dL_law_763 : decode cL_law 763 = .ok (.iaload, 1) := by decide +kernel
theorem dL_law_764 : decode cL_law 764 = .ok (.invokevirtual 106, 3) := by decide +kernel
theorem dL_law_767 : decode cL_law 767 = .ok (.aload_n 2, 1) := by decide +kernel
theorem dL_law_768 : decode cL_law 768 = .ok (.aload_n 0, 1) := by decide +kernel
theorem dL_law_769 : decode cL_law 769 = .ok (.iload_n 3, 1) := by decide +kernel
theorem dL_law_770 : decode cL_law 770 = .ok (.iconst 1, 1) := by decide +kernel
theorem dL_law_771 : decode cL_law 771 = .ok (.iadd, 1) := by decide +kernel
theorem dL_law_772 : decode cL_law 772 = .ok (.iaload, 1) := by decide +kernel
theorem dL_law_773 : decode cL_law 773 = .ok (.invokevirtual 109, 3) := by decide +kernel
theorem dL_law_776 : decode cL_law 776 = .ok (.if_icmp .eq 434, 3) := by decide +kernel
theorem dL_law_781 : decode cL_law 781 = .ok (.aload_n 1, 1) := by decide +kernel
theorem dL_law_782 : decode cL_law 782 = .ok (.aload_n 0, 1) := by decide +kernel
theorem dL_law_783 : decode cL_law 783 = .ok (.iload_n 3, 1) := by decide +kernel
theorem dL_law_784 : decode cL_law 784 = .ok (.iconst 1, 1) := by decide +kernel
theorem dL_law_785 : decode cL_law 785 = .ok (.iadd, 1) := by decide +kernel
theorem dL_law_786 : decode cL_law 786 = .ok (.iaload, 1) := by decide +kernel
theorem dL_law_787 : decode cL_law 787 = .ok (.invokevirtual 110, 3) := by decide +kernel
theorem dL_law_790 : decode cL_law 790 = .ok (.aload_n 2, 1) := by decide +kernel
theorem dL_law_791 : decode cL_law 791 = .ok (.aload_n 0, 1) := by decide +kernel
theorem dL_law_792 : decode cL_law 792 = .ok (.iload_n 3, 1) := by decide +kernel
theorem dL_law_793 : decode cL_law 793 = .ok (.iconst 1, 1) := by decide +kernel
theorem dL_law_794 : decode cL_law 794 = .ok (.iadd, 1) := by decide +kernel
theorem dL_law_795 : decode cL_law 795 = .ok (.iaload, 1) := by decide +kernel
theorem dL_law_796 : decode cL_law 796 = .ok (.invokevirtual 113, 3) := by decide +kernel
theorem dL_law_799 : decode cL_law 799 = .ok (.if_icmp .eq 411, 3) := by decide +kernel
theorem dL_law_804 : decode cL_law 804 = .ok (.aload_n 1, 1) := by decide +kernel
theorem dL_law_805 : decode cL_law 805 = .ok (.aload_n 0, 1) := by decide +kernel
theorem dL_law_806 : decode cL_law 806 = .ok (.iload_n 3, 1) := by decide +kernel
theorem dL_law_807 : decode cL_law 807 = .ok (.iconst 1, 1) := by decide +kernel
theorem dL_law_808 : decode cL_law 808 = .ok (.iadd, 1) := by decide +kernel
theorem dL_law_809 : decode cL_law 809 = .ok (.iaload, 1) := by decide +kernel
theorem dL_law_810 : decode cL_law 810 = .ok (.aload_n 0, 1) := by decide +kernel
theorem dL_law_811 : decode cL_law 811 = .ok (.iload_n 3, 1) := by decide +kernel
theorem dL_law_812 : decode cL_law 812 = .ok (.iconst 2, 1) := by decide +kernel
theorem dL_law_813 : decode cL_law 813 = .ok (.iadd, 1) := by decide +kernel
theorem dL_law_814 : decode cL_law 814 = .ok (.iaload, 1) := by decide +kernel
theorem dL_law_815 : decode cL_law 815 = .ok (.invokevirtual 114, 3) := by decide +kernel
theorem dL_law_818 : decode cL_law 818 = .ok (.aload_n 2, 1) := by decide +kernel
theorem dL_law_819 : decode cL_law 819 = .ok (.aload_n 0, 1) := by decide +kernel
theorem dL_law_820 : decode cL_law 820 = .ok (.iload_n 3, 1) := by decide +kernel
theorem dL_law_821 : decode cL_law 821 = .ok (.iconst 1, 1) := by decide +kernel
theorem dL_law_822 : decode cL_law 822 = .ok (.iadd, 1) := by decide +kernel
theorem dL_law_823 : decode cL_law 823 = .ok (.iaload, 1) := by decide +kernel
theorem dL_law_824 : decode cL_law 824 = .ok (.aload_n 0, 1) := by decide +kernel
theorem dL_law_825 : decode cL_law 825 = .ok (.iload_n 3, 1) := by decide +kernel
theorem dL_law_826 : decode cL_law 826 = .ok (.iconst 2, 1) := by decide +kernel
theorem dL_law_827 : decode cL_law 827 = .ok (.iadd, 1) := by decide +kernel
theorem dL_law_828 : decode cL_law 828 = .ok (.iaload, 1) := by decide +kernel
theorem dL_law_829 : decode cL_law 829 = .ok (.invokevirtual 117, 3) := by decide +kernel
theorem dL_law_832 : decode cL_law 832 = .ok (.if_icmp .eq 378, 3) := by decide +kernel
theorem dL_law_837 : decode cL_law 837 = .ok (.aload_n 1, 1) := by decide +kernel
theorem dL_law_838 : decode cL_law 838 = .ok (.aload_n 0, 1) := by decide +kernel
theorem dL_law_839 : decode cL_law 839 = .ok (.iload_n 3, 1) := by decide +kernel
theorem dL_law_840 : decode cL_law 840 = .ok (.iconst 1, 1) := by decide +kernel
theorem dL_law_841 : decode cL_law 841 = .ok (.iadd, 1) := by decide +kernel
theorem dL_law_842 : decode cL_law 842 = .ok (.iaload, 1) := by decide +kernel
theorem dL_law_843 : decode cL_law 843 = .ok (.aload_n 0, 1) := by decide +kernel
theorem dL_law_844 : decode cL_law 844 = .ok (.iload_n 3, 1) := by decide +kernel
theorem dL_law_845 : decode cL_law 845 = .ok (.iconst 2, 1) := by decide +kernel
theorem dL_law_846 : decode cL_law 846 = .ok (.iadd, 1) := by decide +kernel
theorem dL_law_847 : decode cL_law 847 = .ok (.iaload, 1) := by decide +kernel
theorem dL_law_848 : decode cL_law 848 = .ok (.aload_n 0, 1) := by decide +kernel
theorem dL_law_849 : decode cL_law 849 = .ok (.iload_n 3, 1) := by decide +kernel
theorem dL_law_850 : decode cL_law 850 = .ok (.iconst 3, 1) := by decide +kernel
theorem dL_law_851 : decode cL_law 851 = .ok (.iadd, 1) := by decide +kernel
theorem dL_law_852 : decode cL_law 852 = .ok (.iaload, 1) := by decide +kernel
theorem dL_law_853 : decode cL_law 853 = .ok (.aload_n 0, 1) := by decide +kernel
theorem dL_law_854 : decode cL_law 854 = .ok (.iload_n 3, 1) := by decide +kernel
theorem dL_law_855 : decode cL_law 855 = .ok (.iconst 4, 1) := by decide +kernel
theorem dL_law_856 : decode cL_law 856 = .ok (.iadd, 1) := by decide +kernel
theorem dL_law_857 : decode cL_law 857 = .ok (.iaload, 1) := by decide +kernel
theorem dL_law_858 : decode cL_law 858 = .ok (.invokevirtual 118, 3) := by decide +kernel
theorem dL_law_861 : decode cL_law 861 = .ok (.aload_n 2, 1) := by decide +kernel
theorem dL_law_862 : decode cL_law 862 = .ok (.aload_n 0, 1) := by decide +kernel
theorem dL_law_863 : decode cL_law 863 = .ok (.iload_n 3, 1) := by decide +kernel
theorem dL_law_864 : decode cL_law 864 = .ok (.iconst 1, 1) := by decide +kernel
theorem dL_law_865 : decode cL_law 865 = .ok (.iadd, 1) := by decide +kernel
theorem dL_law_866 : decode cL_law 866 = .ok (.iaload, 1) := by decide +kernel
theorem dL_law_867 : decode cL_law 867 = .ok (.aload_n 0, 1) := by decide +kernel
theorem dL_law_868 : decode cL_law 868 = .ok (.iload_n 3, 1) := by decide +kernel
theorem dL_law_869 : decode cL_law 869 = .ok (.iconst 2, 1) := by decide +kernel
theorem dL_law_870 : decode cL_law 870 = .ok (.iadd, 1) := by decide +kernel
theorem dL_law_871 : decode cL_law 871 = .ok (.iaload, 1) := by decide +kernel
theorem dL_law_872 : decode cL_law 872 = .ok (.aload_n 0, 1) := by decide +kernel
theorem dL_law_873 : decode cL_law 873 = .ok (.iload_n 3, 1) := by decide +kernel
theorem dL_law_874 : decode cL_law 874 = .ok (.iconst 3, 1) := by decide +kernel
theorem dL_law_875 : decode cL_law 875 = .ok (.iadd, 1) := by decide +kernel
theorem dL_law_876 : decode cL_law 876 = .ok (.iaload, 1) := by decide +kernel
theorem dL_law_877 : decode cL_law 877 = .ok (.aload_n 0, 1) := by decide +kernel
theorem dL_law_878 : decode cL_law 878 = .ok (.iload_n 3, 1) := by decide +kernel
theorem dL_law_879 : decode cL_law 879 = .ok (.iconst 4, 1) := by decide +kernel
theorem dL_law_880 : decode cL_law 880 = .ok (.iadd, 1) := by decide +kernel
theorem dL_law_881 : decode cL_law 881 = .ok (.iaload, 1) := by decide +kernel
theorem dL_law_882 : decode cL_law 882 = .ok (.invokevirtual 122, 3) := by decide +kernel
theorem dL_law_885 : decode cL_law 885 = .ok (.if_icmp .eq 325, 3) := by decide +kernel
theorem dL_law_890 : decode cL_law 890 = .ok (.aload_n 1, 1) := by decide +kernel
theorem dL_law_891 : decode cL_law 891 = .ok (.aload_n 0, 1) := by decide +kernel
theorem dL_law_892 : decode cL_law 892 = .ok (.iload_n 3, 1) := by decide +kernel
theorem dL_law_893 : decode cL_law 893 = .ok (.iconst 1, 1) := by decide +kernel
theorem dL_law_894 : decode cL_law 894 = .ok (.iadd, 1) := by decide +kernel
theorem dL_law_895 : decode cL_law 895 = .ok (.iaload, 1) := by decide +kernel
theorem dL_law_896 : decode cL_law 896 = .ok (.aload_n 0, 1) := by decide +kernel
theorem dL_law_897 : decode cL_law 897 = .ok (.iload_n 3, 1) := by decide +kernel
theorem dL_law_898 : decode cL_law 898 = .ok (.iconst 2, 1) := by decide +kernel
theorem dL_law_899 : decode cL_law 899 = .ok (.iadd, 1) := by decide +kernel
theorem dL_law_900 : decode cL_law 900 = .ok (.iaload, 1) := by decide +kernel
theorem dL_law_901 : decode cL_law 901 = .ok (.invokevirtual 123, 3) := by decide +kernel
theorem dL_law_904 : decode cL_law 904 = .ok (.aload_n 2, 1) := by decide +kernel
theorem dL_law_905 : decode cL_law 905 = .ok (.aload_n 0, 1) := by decide +kernel
theorem dL_law_906 : decode cL_law 906 = .ok (.iload_n 3, 1) := by decide +kernel
theorem dL_law_907 : decode cL_law 907 = .ok (.iconst 1, 1) := by decide +kernel
theorem dL_law_908 : decode cL_law 908 = .ok (.iadd, 1) := by decide +kernel
theorem dL_law_909 : decode cL_law 909 = .ok (.iaload, 1) := by decide +kernel
theorem dL_law_910 : decode cL_law 910 = .ok (.aload_n 0, 1) := by decide +kernel
theorem dL_law_911 : decode cL_law 911 = .ok (.iload_n 3, 1) := by decide +kernel
theorem dL_law_912 : decode cL_law 912 = .ok (.iconst 2, 1) := by decide +kernel
theorem dL_law_913 : decode cL_law 913 = .ok (.iadd, 1) := by decide +kernel
theorem dL_law_914 : decode cL_law 914 = .ok (.iaload, 1) := by decide +kernel
theorem dL_law_915 : decode cL_law 915 = .ok (.invokevirtual 126, 3) := by decide +kernel
theorem dL_law_918 : decode cL_law 918 = .ok (.if_icmp .eq 292, 3) := by decide +kernel
theorem dL_law_923 : decode cL_law 923 = .ok (.aload_n 1, 1) := by decide +kernel
theorem dL_law_924 : decode cL_law 924 = .ok (.aload_n 0, 1) := by decide +kernel
theorem dL_law_925 : decode cL_law 925 = .ok (.iload_n 3, 1) := by decide +kernel
theorem dL_law_926 : decode cL_law 926 = .ok (.iconst 1, 1) := by decide +kernel
theorem dL_law_927 : decode cL_law 927 = .ok (.iadd, 1) := by decide +kernel
theorem dL_law_928 : decode cL_law 928 = .ok (.iaload, 1) := by decide +kernel
theorem dL_law_929 : decode cL_law 929 = .ok (.aload_n 0, 1) := by decide +kernel
theorem dL_law_930 : decode cL_law 930 = .ok (.iload_n 3, 1) := by decide +kernel
theorem dL_law_931 : decode cL_law 931 = .ok (.iconst 2, 1) := by decide +kernel
theorem dL_law_932 : decode cL_law 932 = .ok (.iadd, 1) := by decide +kernel
theorem dL_law_933 : decode cL_law 933 = .ok (.iaload, 1) := by decide +kernel
theorem dL_law_934 : decode cL_law 934 = .ok (.invokevirtual 127, 3) := by decide +kernel
theorem dL_law_937 : decode cL_law 937 = .ok (.aload_n 2, 1) := by decide +kernel
theorem dL_law_938 : decode cL_law 938 = .ok (.aload_n 0, 1) := by decide +kernel
theorem dL_law_939 : decode cL_law 939 = .ok (.iload_n 3, 1) := by decide +kernel
theorem dL_law_940 : decode cL_law 940 = .ok (.iconst 1, 1) := by decide +kernel
theorem dL_law_941 : decode cL_law 941 = .ok (.iadd, 1) := by decide +kernel
theorem dL_law_942 : decode cL_law 942 = .ok (.iaload, 1) := by decide +kernel
theorem dL_law_943 : decode cL_law 943 = .ok (.aload_n 0, 1) := by decide +kernel
theorem dL_law_944 : decode cL_law 944 = .ok (.iload_n 3, 1) := by decide +kernel
theorem dL_law_945 : decode cL_law 945 = .ok (.iconst 2, 1) := by decide +kernel
theorem dL_law_946 : decode cL_law 946 = .ok (.iadd, 1) := by decide +kernel
theorem dL_law_947 : decode cL_law 947 = .ok (.iaload, 1) := by decide +kernel
theorem dL_law_948 : decode cL_law 948 = .ok (.invokevirtual 130, 3) := by decide +kernel
theorem dL_law_951 : decode cL_law 951 = .ok (.if_icmp .eq 259, 3) := by decide +kernel
theorem dL_law_956 : decode cL_law 956 = .ok (.aload_n 1, 1) := by decide +kernel
theorem dL_law_957 : decode cL_law 957 = .ok (.aload_n 0, 1) := by decide +kernel
theorem dL_law_958 : decode cL_law 958 = .ok (.iload_n 3, 1) := by decide +kernel
theorem dL_law_959 : decode cL_law 959 = .ok (.iconst 1, 1) := by decide +kernel
theorem dL_law_960 : decode cL_law 960 = .ok (.iadd, 1) := by decide +kernel
theorem dL_law_961 : decode cL_law 961 = .ok (.iaload, 1) := by decide +kernel
theorem dL_law_962 : decode cL_law 962 = .ok (.aload_n 0, 1) := by decide +kernel
theorem dL_law_963 : decode cL_law 963 = .ok (.iload_n 3, 1) := by decide +kernel
theorem dL_law_964 : decode cL_law 964 = .ok (.iconst 2, 1) := by decide +kernel
theorem dL_law_965 : decode cL_law 965 = .ok (.iadd, 1) := by decide +kernel
theorem dL_law_966 : decode cL_law 966 = .ok (.iaload, 1) := by decide +kernel
theorem dL_law_967 : decode cL_law 967 = .ok (.aload_n 0, 1) := by decide +kernel
theorem dL_law_968 : decode cL_law 968 = .ok (.iload_n 3, 1) := by decide +kernel
theorem dL_law_969 : decode cL_law 969 = .ok (.iconst 3, 1) := by decide +kernel
theorem dL_law_970 : decode cL_law 970 = .ok (.iadd, 1) := by decide +kernel
theorem dL_law_971 : decode cL_law 971 = .ok (.iaload, 1) := by decide +kernel
theorem dL_law_972 : decode cL_law 972 = .ok (.aload_n 0, 1) := by decide +kernel
theorem dL_law_973 : decode cL_law 973 = .ok (.iload_n 3, 1) := by decide +kernel
theorem dL_law_974 : decode cL_law 974 = .ok (.iconst 4, 1) := by decide +kernel
theorem dL_law_975 : decode cL_law 975 = .ok (.iadd, 1) := by decide +kernel
theorem dL_law_976 : decode cL_law 976 = .ok (.iaload, 1) := by decide +kernel
theorem dL_law_977 : decode cL_law 977 = .ok (.invokevirtual 131, 3) := by decide +kernel
theorem dL_law_980 : decode cL_law 980 = .ok (.aload_n 2, 1) := by decide +kernel
theorem dL_law_981 : decode cL_law 981 = .ok (.aload_n 0, 1) := by decide +kernel
theorem dL_law_982 : decode cL_law 982 = .ok (.iload_n 3, 1) := by decide +kernel
theorem dL_law_983 : decode cL_law 983 = .ok (.iconst 1, 1) := by decide +kernel
theorem dL_law_984 : decode cL_law 984 = .ok (.iadd, 1) := by decide +kernel
theorem dL_law_985 : decode cL_law 985 = .ok (.iaload, 1) := by decide +kernel
theorem dL_law_986 : decode cL_law 986 = .ok (.aload_n 0, 1) := by decide +kernel
theorem dL_law_987 : decode cL_law 987 = .ok (.iload_n 3, 1) := by decide +kernel
theorem dL_law_988 : decode cL_law 988 = .ok (.iconst 2, 1) := by decide +kernel
theorem dL_law_989 : decode cL_law 989 = .ok (.iadd, 1) := by decide +kernel
theorem dL_law_990 : decode cL_law 990 = .ok (.iaload, 1) := by decide +kernel
theorem dL_law_991 : decode cL_law 991 = .ok (.aload_n 0, 1) := by decide +kernel
theorem dL_law_992 : decode cL_law 992 = .ok (.iload_n 3, 1) := by decide +kernel
theorem dL_law_993 : decode cL_law 993 = .ok (.iconst 3, 1) := by decide +kernel
theorem dL_law_994 : decode cL_law 994 = .ok (.iadd, 1) := by decide +kernel
theorem dL_law_995 : decode cL_law 995 = .ok (.iaload, 1) := by decide +kernel
theorem dL_law_996 : decode cL_law 996 = .ok (.aload_n 0, 1) := by decide +kernel
theorem dL_law_997 : decode cL_law 997 = .ok (.iload_n 3, 1) := by decide +kernel
theorem dL_law_998 : decode cL_law 998 = .ok (.iconst 4, 1) := by decide +kernel
theorem dL_law_999 : decode cL_law 999 = .ok (.iadd, 1) := by decide +kernel
theorem dL_law_1000 : decode cL_law 1000 = .ok (.iaload, 1) := by decide +kernel
theorem dL_law_1001 : decode cL_law 1001 = .ok (.invokevirtual 134, 3) := by decide +kernel
theorem dL_law_1004 : decode cL_law 1004 = .ok (.if_icmp .eq 206, 3) := by decide +kernel
theorem dL_law_1009 : decode cL_law 1009 = .ok (.aload_n 1, 1) := by decide +kernel
theorem dL_law_1010 : decode cL_law 1010 = .ok (.aload_n 0, 1) := by decide +kernel
theorem dL_law_1011 : decode cL_law 1011 = .ok (.iload_n 3, 1) := by decide +kernel
theorem dL_law_1012 : decode cL_law 1012 = .ok (.iconst 1, 1) := by decide +kernel
theorem dL_law_1013 : decode cL_law 1013 = .ok (.iadd, 1) := by decide +kernel
theorem dL_law_1014 : decode cL_law 1014 = .ok (.iaload, 1) := by decide +kernel
theorem dL_law_1015 : decode cL_law 1015 = .ok (.invokevirtual 135, 3) := by decide +kernel
theorem dL_law_1018 : decode cL_law 1018 = .ok (.aload_n 2, 1) := by decide +kernel
theorem dL_law_1019 : decode cL_law 1019 = .ok (.aload_n 0, 1) := by decide +kernel
theorem dL_law_1020 : decode cL_law 1020 = .ok (.iload_n 3, 1) := by decide +kernel
theorem dL_law_1021 : decode cL_law 1021 = .ok (.iconst 1, 1) := by decide +kernel
theorem dL_law_1022 : decode cL_law 1022 = .ok (.iadd, 1) := by decide +kernel
theorem dL_law_1023 : decode cL_law 1023 = .ok (.iaload, 1) := by decide +kernel
theorem dL_law_1024 : decode cL_law 1024 = .ok (.invokevirtual 138, 3) := by decide +kernel
theorem dL_law_1027 : decode cL_law 1027 = .ok (.if_icmp .eq 183, 3) := by decide +kernel
theorem dL_law_1032 : decode cL_law 1032 = .ok (.aload_n 1, 1) := by decide +kernel
theorem dL_law_1033 : decode cL_law 1033 = .ok (.aload_n 0, 1) := by decide +kernel
theorem dL_law_1034 : decode cL_law 1034 = .ok (.iload_n 3, 1) := by decide +kernel
theorem dL_law_1035 : decode cL_law 1035 = .ok (.iconst 1, 1) := by decide +kernel
theorem dL_law_1036 : decode cL_law 1036 = .ok (.iadd, 1) := by decide +kernel
theorem dL_law_1037 : decode cL_law 1037 = .ok (.iaload, 1) := by decide +kernel
theorem dL_law_1038 : decode cL_law 1038 = .ok (.aload_n 0, 1) := by decide +kernel
theorem dL_law_1039 : decode cL_law 1039 = .ok (.iload_n 3, 1) := by decide +kernel
theorem dL_law_1040 : decode cL_law 1040 = .ok (.iconst 2, 1) := by decide +kernel
theorem dL_law_1041 : decode cL_law 1041 = .ok (.iadd, 1) := by decide +kernel
theorem dL_law_1042 : decode cL_law 1042 = .ok (.iaload, 1) := by decide +kernel
theorem dL_law_1043 : decode cL_law 1043 = .ok (.invokevirtual 139, 3) := by decide +kernel
theorem dL_law_1046 : decode cL_law 1046 = .ok (.aload_n 2, 1) := by decide +kernel
theorem dL_law_1047 : decode cL_law 1047 = .ok (.aload_n 0, 1) := by decide +kernel
theorem dL_law_1048 : decode cL_law 1048 = .ok (.iload_n 3, 1) := by decide +kernel
theorem dL_law_1049 : decode cL_law 1049 = .ok (.iconst 1, 1) := by decide +kernel
theorem dL_law_1050 : decode cL_law 1050 = .ok (.iadd, 1) := by decide +kernel
theorem dL_law_1051 : decode cL_law 1051 = .ok (.iaload, 1) := by decide +kernel
theorem dL_law_1052 : decode cL_law 1052 = .ok (.aload_n 0, 1) := by decide +kernel
theorem dL_law_1053 : decode cL_law 1053 = .ok (.iload_n 3, 1) := by decide +kernel
theorem dL_law_1054 : decode cL_law 1054 = .ok (.iconst 2, 1) := by decide +kernel
theorem dL_law_1055 : decode cL_law 1055 = .ok (.iadd, 1) := by decide +kernel
theorem dL_law_1056 : decode cL_law 1056 = .ok (.iaload, 1) := by decide +kernel
theorem dL_law_1057 : decode cL_law 1057 = .ok (.invokevirtual 142, 3) := by decide +kernel
theorem dL_law_1060 : decode cL_law 1060 = .ok (.if_icmp .eq 150, 3) := by decide +kernel
theorem dL_law_1065 : decode cL_law 1065 = .ok (.aload_n 1, 1) := by decide +kernel
theorem dL_law_1066 : decode cL_law 1066 = .ok (.aload_n 0, 1) := by decide +kernel
theorem dL_law_1067 : decode cL_law 1067 = .ok (.iload_n 3, 1) := by decide +kernel
theorem dL_law_1068 : decode cL_law 1068 = .ok (.iconst 1, 1) := by decide +kernel
theorem dL_law_1069 : decode cL_law 1069 = .ok (.iadd, 1) := by decide +kernel
theorem dL_law_1070 : decode cL_law 1070 = .ok (.iaload, 1) := by decide +kernel
theorem dL_law_1071 : decode cL_law 1071 = .ok (.invokevirtual 143, 3) := by decide +kernel
theorem dL_law_1074 : decode cL_law 1074 = .ok (.aload_n 2, 1) := by decide +kernel
theorem dL_law_1075 : decode cL_law 1075 = .ok (.aload_n 0, 1) := by decide +kernel
theorem dL_law_1076 : decode cL_law 1076 = .ok (.iload_n 3, 1) := by decide +kernel
theorem dL_law_1077 : decode cL_law 1077 = .ok (.iconst 1, 1) := by decide +kernel
theorem dL_law_1078 : decode cL_law 1078 = .ok (.iadd, 1) := by decide +kernel
theorem dL_law_1079 : decode cL_law 1079 = .ok (.iaload, 1) := by decide +kernel
theorem dL_law_1080 : decode cL_law 1080 = .ok (.invokevirtual 146, 3) := by decide +kernel
theorem dL_law_1083 : decode cL_law 1083 = .ok (.if_icmp .eq 127, 3) := by decide +kernel
theorem dL_law_1088 : decode cL_law 1088 = .ok (.aload_n 1, 1) := by decide +kernel
theorem dL_law_1089 : decode cL_law 1089 = .ok (.aload_n 0, 1) := by decide +kernel
theorem dL_law_1090 : decode cL_law 1090 = .ok (.iload_n 3, 1) := by decide +kernel
theorem dL_law_1091 : decode cL_law 1091 = .ok (.iconst 1, 1) := by decide +kernel
theorem dL_law_1092 : decode cL_law 1092 = .ok (.iadd, 1) := by decide +kernel
theorem dL_law_1093 : decode cL_law 1093 = .ok (.iaload, 1) := by decide +kernel
theorem dL_law_1094 : decode cL_law 1094 = .ok (.aload_n 0, 1) := by decide +kernel
theorem dL_law_1095 : decode cL_law 1095 = .ok (.iload_n 3, 1) := by decide +kernel
theorem dL_law_1096 : decode cL_law 1096 = .ok (.iconst 2, 1) := by decide +kernel
theorem dL_law_1097 : decode cL_law 1097 = .ok (.iadd, 1) := by decide +kernel
theorem dL_law_1098 : decode cL_law 1098 = .ok (.iaload, 1) := by decide +kernel
theorem dL_law_1099 : decode cL_law 1099 = .ok (.aload_n 0, 1) := by decide +kernel
theorem dL_law_1100 : decode cL_law 1100 = .ok (.iload_n 3, 1) := by decide +kernel
theorem dL_law_1101 : decode cL_law 1101 = .ok (.iconst 3, 1) := by decide +kernel
theorem dL_law_1102 : decode cL_law 1102 = .ok (.iadd, 1) := by decide +kernel
theorem dL_law_1103 : decode cL_law 1103 = .ok (.iaload, 1) := by decide +kernel
theorem dL_law_1104 : decode cL_law 1104 = .ok (.aload_n 0, 1) := by decide +kernel
theorem dL_law_1105 : decode cL_law 1105 = .ok (.iload_n 3, 1) := by decide +kernel
theorem dL_law_1106 : decode cL_law 1106 = .ok (.iconst 4, 1) := by decide +kernel
theorem dL_law_1107 : decode cL_law 1107 = .ok (.iadd, 1) := by decide +kernel
theorem dL_law_1108 : decode cL_law 1108 = .ok (.iaload, 1) := by decide +kernel
theorem dL_law_1109 : decode cL_law 1109 = .ok (.invokevirtual 147, 3) := by decide +kernel
theorem dL_law_1112 : decode cL_law 1112 = .ok (.aload_n 2, 1) := by decide +kernel
theorem dL_law_1113 : decode cL_law 1113 = .ok (.aload_n 0, 1) := by decide +kernel
theorem dL_law_1114 : decode cL_law 1114 = .ok (.iload_n 3, 1) := by decide +kernel
theorem dL_law_1115 : decode cL_law 1115 = .ok (.iconst 1, 1) := by decide +kernel
theorem dL_law_1116 : decode cL_law 1116 = .ok (.iadd, 1) := by decide +kernel
theorem dL_law_1117 : decode cL_law 1117 = .ok (.iaload, 1) := by decide +kernel
theorem dL_law_1118 : decode cL_law 1118 = .ok (.aload_n 0, 1) := by decide +kernel
theorem dL_law_1119 : decode cL_law 1119 = .ok (.iload_n 3, 1) := by decide +kernel
theorem dL_law_1120 : decode cL_law 1120 = .ok (.iconst 2, 1) := by decide +kernel
theorem dL_law_1121 : decode cL_law 1121 = .ok (.iadd, 1) := by decide +kernel
theorem dL_law_1122 : decode cL_law 1122 = .ok (.iaload, 1) := by decide +kernel
theorem dL_law_1123 : decode cL_law 1123 = .ok (.aload_n 0, 1) := by decide +kernel
theorem dL_law_1124 : decode cL_law 1124 = .ok (.iload_n 3, 1) := by decide +kernel
theorem dL_law_1125 : decode cL_law 1125 = .ok (.iconst 3, 1) := by decide +kernel
theorem dL_law_1126 : decode cL_law 1126 = .ok (.iadd, 1) := by decide +kernel
theorem dL_law_1127 : decode cL_law 1127 = .ok (.iaload, 1) := by decide +kernel
theorem dL_law_1128 : decode cL_law 1128 = .ok (.aload_n 0, 1) := by decide +kernel
theorem dL_law_1129 : decode cL_law 1129 = .ok (.iload_n 3, 1) := by decide +kernel
theorem dL_law_1130 : decode cL_law 1130 = .ok (.iconst 4, 1) := by decide +kernel
theorem dL_law_1131 : decode cL_law 1131 = .ok (.iadd, 1) := by decide +kernel
theorem dL_law_1132 : decode cL_law 1132 = .ok (.iaload, 1) := by decide +kernel
theorem dL_law_1133 : decode cL_law 1133 = .ok (.invokevirtual 150, 3) := by decide +kernel
theorem dL_law_1136 : decode cL_law 1136 = .ok (.if_icmp .eq 74, 3) := by decide +kernel
theorem dL_law_1141 : decode cL_law 1141 = .ok (.aload_n 1, 1) := by decide +kernel
theorem dL_law_1142 : decode cL_law 1142 = .ok (.aload_n 0, 1) := by decide +kernel
theorem dL_law_1143 : decode cL_law 1143 = .ok (.iload_n 3, 1) := by decide +kernel
theorem dL_law_1144 : decode cL_law 1144 = .ok (.iconst 1, 1) := by decide +kernel
theorem dL_law_1145 : decode cL_law 1145 = .ok (.iadd, 1) := by decide +kernel
theorem dL_law_1146 : decode cL_law 1146 = .ok (.iaload, 1) := by decide +kernel
theorem dL_law_1147 : decode cL_law 1147 = .ok (.invokevirtual 151, 3) := by decide +kernel
theorem dL_law_1150 : decode cL_law 1150 = .ok (.aload_n 2, 1) := by decide +kernel
theorem dL_law_1151 : decode cL_law 1151 = .ok (.aload_n 0, 1) := by decide +kernel
theorem dL_law_1152 : decode cL_law 1152 = .ok (.iload_n 3, 1) := by decide +kernel
theorem dL_law_1153 : decode cL_law 1153 = .ok (.iconst 1, 1) := by decide +kernel
theorem dL_law_1154 : decode cL_law 1154 = .ok (.iadd, 1) := by decide +kernel
theorem dL_law_1155 : decode cL_law 1155 = .ok (.iaload, 1) := by decide +kernel
theorem dL_law_1156 : decode cL_law 1156 = .ok (.invokevirtual 154, 3) := by decide +kernel
theorem dL_law_1159 : decode cL_law 1159 = .ok (.if_icmp .eq 51, 3) := by decide +kernel
theorem dL_law_1164 : decode cL_law 1164 = .ok (.aload_n 1, 1) := by decide +kernel
theorem dL_law_1165 : decode cL_law 1165 = .ok (.aload_n 0, 1) := by decide +kernel
theorem dL_law_1166 : decode cL_law 1166 = .ok (.iload_n 3, 1) := by decide +kernel
theorem dL_law_1167 : decode cL_law 1167 = .ok (.iconst 1, 1) := by decide +kernel
theorem dL_law_1168 : decode cL_law 1168 = .ok (.iadd, 1) := by decide +kernel
theorem dL_law_1169 : decode cL_law 1169 = .ok (.iaload, 1) := by decide +kernel
theorem dL_law_1170 : decode cL_law 1170 = .ok (.invokevirtual 155, 3) := by decide +kernel
theorem dL_law_1173 : decode cL_law 1173 = .ok (.aload_n 2, 1) := by decide +kernel
theorem dL_law_1174 : decode cL_law 1174 = .ok (.aload_n 0, 1) := by decide +kernel
theorem dL_law_1175 : decode cL_law 1175 = .ok (.iload_n 3, 1) := by decide +kernel
theorem dL_law_1176 : decode cL_law 1176 = .ok (.iconst 1, 1) := by decide +kernel
theorem dL_law_1177 : decode cL_law 1177 = .ok (.iadd, 1) := by decide +kernel
theorem dL_law_1178 : decode cL_law 1178 = .ok (.iaload, 1) := by decide +kernel
theorem dL_law_1179 : decode cL_law 1179 = .ok (.invokevirtual 158, 3) := by decide +kernel
theorem dL_law_1182 : decode cL_law 1182 = .ok (.if_icmp .eq 28, 3) := by decide +kernel
theorem dL_law_1187 : decode cL_law 1187 = .ok (.aload_n 1, 1) := by decide +kernel
theorem dL_law_1188 : decode cL_law 1188 = .ok (.aload_n 0, 1) := by decide +kernel
theorem dL_law_1189 : decode cL_law 1189 = .ok (.iload_n 3, 1) := by decide +kernel
theorem dL_law_1190 : decode cL_law 1190 = .ok (.iconst 1, 1) := by decide +kernel
theorem dL_law_1191 : decode cL_law 1191 = .ok (.iadd, 1) := by decide +kernel
theorem dL_law_1192 : decode cL_law 1192 = .ok (.iaload, 1) := by decide +kernel
theorem dL_law_1193 : decode cL_law 1193 = .ok (.invokevirtual 159, 3) := by decide +kernel
theorem dL_law_1196 : decode cL_law 1196 = .ok (.aload_n 2, 1) := by decide +kernel
theorem dL_law_1197 : decode cL_law 1197 = .ok (.aload_n 0, 1) := by decide +kernel
theorem dL_law_1198 : decode cL_law 1198 = .ok (.iload_n 3, 1) := by decide +kernel
theorem dL_law_1199 : decode cL_law 1199 = .ok (.iconst 1, 1) := by decide +kernel
theorem dL_law_1200 : decode cL_law 1200 = .ok (.iadd, 1) := by decide +kernel
theorem dL_law_1201 : decode cL_law 1201 = .ok (.iaload, 1) := by decide +kernel
theorem dL_law_1202 : decode cL_law 1202 = .ok (.invokevirtual 162, 3) := by decide +kernel
theorem dL_law_1205 : decode cL_law 1205 = .ok (.if_icmp .eq 5, 3) := by decide +kernel
theorem dL_law_1210 : decode cL_law 1210 = .ok (.iinc 3 6, 3) := by decide +kernel
theorem dL_law_1213 : decode cL_law 1213 = .ok (.goto (-1195), 3) := by decide +kernel
theorem dL_law_1216 : decode cL_law 1216 = .ok (.iconst 1, 1) := by decide +kernel
theorem dL_law_1217 : decode cL_law 1217 = .ok (.ireturn, 1) := by decide +kernel

theorem eqP {P : Prop} {r q a b : Int32} (h : (P → r = a) ∧ (¬ P → r = b)) (g : (P → q = a) ∧ (¬ P → q = b)) : r = q := by
  by_cases hP : P
  · rw [h.1 hP, g.1 hP]
  · rw [h.2 hP, g.2 hP]
theorem c36 (x : Int32) : x = 0 ∨ x = 1 ∨ x = 2 ∨ x = 3 ∨ x = 4 ∨ x = 5 ∨ x = 6 ∨ x = 7 ∨ x = 8 ∨ x = 9 ∨ x = 10 ∨ x = 11 ∨ x = 12 ∨ x = 13 ∨ x = 14 ∨ x = 15 ∨ x = 16 ∨ x = 17 ∨ x = 18 ∨ x = 19 ∨ x = 20 ∨ x = 21 ∨ x = 22 ∨ x = 23 ∨ x = 24 ∨ x = 25 ∨ x = 26 ∨ x = 27 ∨ x = 28 ∨ x = 29 ∨ x = 30 ∨ x = 31 ∨ x = 32 ∨ x = 33 ∨ x = 34 ∨ x = 35 ∨ (x.toInt < 0 ∨ 35 < x.toInt) := by
  have e : ∀ k : Int32, x = k ↔ x.toInt = k.toInt := fun k => Int32.toInt_inj.symm
  simp only [e, show (0 : Int32).toInt = 0 from rfl, show (1 : Int32).toInt = 1 from rfl, show (2 : Int32).toInt = 2 from rfl, show (3 : Int32).toInt = 3 from rfl, show (4 : Int32).toInt = 4 from rfl, show (5 : Int32).toInt = 5 from rfl, show (6 : Int32).toInt = 6 from rfl, show (7 : Int32).toInt = 7 from rfl, show (8 : Int32).toInt = 8 from rfl, show (9 : Int32).toInt = 9 from rfl, show (10 : Int32).toInt = 10 from rfl, show (11 : Int32).toInt = 11 from rfl, show (12 : Int32).toInt = 12 from rfl, show (13 : Int32).toInt = 13 from rfl, show (14 : Int32).toInt = 14 from rfl, show (15 : Int32).toInt = 15 from rfl, show (16 : Int32).toInt = 16 from rfl, show (17 : Int32).toInt = 17 from rfl, show (18 : Int32).toInt = 18 from rfl, show (19 : Int32).toInt = 19 from rfl, show (20 : Int32).toInt = 20 from rfl, show (21 : Int32).toInt = 21 from rfl, show (22 : Int32).toInt = 22 from rfl, show (23 : Int32).toInt = 23 from rfl, show (24 : Int32).toInt = 24 from rfl, show (25 : Int32).toInt = 25 from rfl, show (26 : Int32).toInt = 26 from rfl, show (27 : Int32).toInt = 27 from rfl, show (28 : Int32).toInt = 28 from rfl, show (29 : Int32).toInt = 29 from rfl, show (30 : Int32).toInt = 30 from rfl, show (31 : Int32).toInt = 31 from rfl, show (32 : Int32).toInt = 32 from rfl, show (33 : Int32).toInt = 33 from rfl, show (34 : Int32).toInt = 34 from rfl, show (35 : Int32).toInt = 35 from rfl]
  omega
set_option maxHeartbeats 4000000 in
set_option maxRecDepth 100000 in
theorem law_end {p : Program} {l : Launch} {e : Env} {s : State} {m : MethodId} {below : List Frame} {meth : Method} {c : Code} {A : Nat → Prop} {b : Nat} {xs : Nat → Int32} (C0 : lw_At p s m meth c b 6 xs) (hAq : ∀ q : Nat, A q → s.heap.size ≤ q) {H : Heap} {locs : List Loc} (hS : va_S A s.heap H locs) {ls : Array Slot} {mo xo : Nat} (hl : lv_has ls 4 [(3, .int 0), (2, .ref mo), (1, .ref xo), (0, .ref b)]) : W p l e room_1 s m #[Value.ref b] below meth c H locs 152 8829 (lw_Z below #[Value.ref b] s) (F0 m 1210 ls []) := by
  obtain ⟨hx, hb, hr, hml, hown, hts, hX, hbl, hlocks, hgv⟩ := id C0
  have hown : s.vm.findClass RL = some m.cls := hown
  have hq : ∀ w ∈ wsA, w.before _ s = true := fun w h => hts w (List.mem_filter.mp h).1
  have hbA : ¬ A b := fun h => Nat.not_le.mpr hbl (hAq b h)
  refine lv_iinc (v := 6) (lv' := [(3, .int 6), (2, .ref mo), (1, .ref xo), (0, .ref b)]) hx hb dL_law_1210 hl (k := 0) rfl (by decide) (by decide) rfl (fun ls hl => ?_)
  refine lv_goto (tgt := 18) hx hb dL_law_1213 (by decide) ?_
  refine lv_iload_n hx hb dL_law_18 rfl (lv_at hl 0 rfl) ?_
  refine lv_aload_n hx hb dL_law_19 rfl (lv_at hl 3 rfl) ?_
  refine va_slen hx hb hX hbl hbA hS dL_law_20 ?_
  refine lv_topi (fun y_1 ey_1 => ?_)
  obtain rfl : y_1 = 6 := ey_1.trans (by decide)
  refine lv_bipush (v := 6) hx hb dL_law_21 (by decide) ?_
  refine lv_isub hx hb dL_law_23 ?_
  refine lv_topi (fun y_2 ey_2 => ?_)
  obtain rfl : y_2 = 0 := ey_2.trans (by decide)
  refine lv_icmp_gt (tgt := 1216) hx hb dL_law_24 (by decide) (fun _ => ?_) (fun c9 => absurd c9 (by decide))
  refine lv_iconst (v := 1) hx hb dL_law_1216 (by decide) ?_
  refine va_forget (fun q hq => hAq _ (hS.2.2 q hq)) ?_
  refine W.widen (k := 600000) (n := 7302250) (Nat.le_of_ble_eq_true rfl) (Nat.le_of_ble_eq_true rfl) ?_
  exact lw_ret hx hb hr hlocks dL_law_1217
set_option maxHeartbeats 4000000 in
set_option maxRecDepth 100000 in
/-- feed, the first call -/
theorem law_0 {p : Program} {l : Launch} {e : Env} {s : State} {m : MethodId} {below : List Frame} {meth : Method} {c : Code} {A : Nat → Prop} {kA vA : Nat → Nat} {dC : Nat → ClassId} {dI : Nat → Nat → Nat} {b : Nat} {xs : Nat → Int32} {xo : Nat} {mo : Nat} {xq1 : Nat} {xq3 : Nat} {xq7 : Nat} {xq12 : Nat} {xq14 : Nat} {xq24 : Nat} {xq34 : Nat} {xq36 : Nat} {xq38 : Nat} {xq48 : Nat} {xq51 : Nat} {xq53 : Nat} {xq55 : Nat} {xq57 : Nat} {xq59 : Nat} {xk2 : ClassId} {mq1 : Nat} {mq3 : Nat} {mq5 : Nat} {mq7 : Nat} {mq9 : Nat} {mq11 : Nat} {mq13 : Nat} {mq15 : Nat} {mq17 : Nat} {mq19 : Nat} {mq21 : Nat} {mq23 : Nat} {mq25 : Nat} {mq27 : Nat} {mq29 : Nat} {mq31 : Nat} {mq33 : Nat} {mq35 : Nat} {mq37 : Nat} {mq39 : Nat} {mq41 : Nat} {mk2 : ClassId} (C0 : lw_At p s m meth c b 6 xs) (hA : ∀ q : Nat, s.heap.size ≤ q → A q) (hAq : ∀ q : Nat, A q → s.heap.size ≤ q) (hE : xE s) (hT : xT kA vA A s s.heap) (hK : va_K (dC, dI) classes [(xk2, .int), (mk2, .byte)] s) {H : Heap} {locs : List Loc} (hP : va_P (dC, dI) classes [(xo, .inr (11, [.ref xq1, .int 0, .ref xq3, .ref xq7, .ref xq12, .int 0, .int (-1), .ref xq14, .ref xq24, .ref xq34, .ref xq36, .ref xq38, .ref xq48, .ref xq51, .ref xq53, .ref xq55, .ref xq57, .ref xq59, .int 0])), (xq1, .inl (xk2, 400, .inl (fun _ => 0))), (mo, .inr (12, [.ref mq1, .int 0, .int 0, .ref mq3, .ref mq5, .ref mq7, .ref mq9, .ref mq11, .int 0, .int 0, .int 0, .int 0, .int 0, .int 0, .int 0, .ref mq13, .int 0, .ref mq15, .int 0, .ref mq17, .ref mq19, .int (-1), .int 0, .int 0, .int 0, .int 0, .int 0, .ref mq21, .int 0, .ref mq23, .ref mq25, .ref mq27, .int 0, .int 0, .int 0, .ref mq29, .ref mq31, .ref mq33, .long 0, .ref mq35, .ref mq37, .ref mq39, .ref mq41])), (mq1, .inl (mk2, 400, .inl (fun _ => 0)))] H) (hD : va_D A [(xo, .inr (11, [.ref xq1, .int 0, .ref xq3, .ref xq7, .ref xq12, .int 0, .int (-1), .ref xq14, .ref xq24, .ref xq34, .ref xq36, .ref xq38, .ref xq48, .ref xq51, .ref xq53, .ref xq55, .ref xq57, .ref xq59, .int 0])), (xq1, .inl (xk2, 400, .inl (fun _ => 0))), (mo, .inr (12, [.ref mq1, .int 0, .int 0, .ref mq3, .ref mq5, .ref mq7, .ref mq9, .ref mq11, .int 0, .int 0, .int 0, .int 0, .int 0, .int 0, .int 0, .ref mq13, .int 0, .ref mq15, .int 0, .ref mq17, .ref mq19, .int (-1), .int 0, .int 0, .int 0, .int 0, .int 0, .ref mq21, .int 0, .ref mq23, .ref mq25, .ref mq27, .int 0, .int 0, .int 0, .ref mq29, .ref mq31, .ref mq33, .long 0, .ref mq35, .ref mq37, .ref mq39, .ref mq41])), (mq1, .inl (mk2, 400, .inl (fun _ => 0)))]) (hS : va_S A s.heap H locs) {ls : Array Slot} (hl : lv_has ls 4 [(3, .int 0), (2, .ref mo), (1, .ref xo), (0, .ref b)]) : W p l e room_1 s m #[Value.ref b] below meth c H locs 152 8829 (lw_Z below #[Value.ref b] s) (F0 m 192 ls []) := by
  obtain ⟨hx, hb, hr, hml, hown, hts, hX, hbl, hlocks, hgv⟩ := id C0
  have hown : s.vm.findClass RL = some m.cls := hown
  have hq : ∀ w ∈ wsA, w.before _ s = true := fun w h => hts w (List.mem_filter.mp h).1
  have hbA : ¬ A b := fun h => Nat.not_le.mpr hbl (hAq b h)
  obtain ⟨z1, ez1⟩ : ∃ z : Int32, z = xs 1 := ⟨_, rfl⟩
  obtain ⟨z2, ez2⟩ : ∃ z : Int32, z = xs 2 := ⟨_, rfl⟩
  obtain ⟨z3, ez3⟩ : ∃ z : Int32, z = xs 3 := ⟨_, rfl⟩
  obtain ⟨z4, ez4⟩ : ∃ z : Int32, z = xs 4 := ⟨_, rfl⟩
  obtain ⟨z5, ez5⟩ : ∃ z : Int32, z = xs 5 := ⟨_, rfl⟩
  refine lv_aload_n hx hb dL_law_192 rfl (lv_at hl 2 rfl) ?_
  refine lv_aload_n hx hb dL_law_193 rfl (lv_at hl 3 rfl) ?_
  refine lv_iload_n hx hb dL_law_194 rfl (lv_at hl 0 rfl) ?_
  refine lv_iconst (v := 1) hx hb dL_law_195 (by decide) ?_
  refine lv_iadd hx hb dL_law_196 ?_
  refine lv_topi (fun y_1 ey_1 => ?_)
  obtain rfl : y_1 = 1 := ey_1.trans (by decide)
  refine va_sld hx hb hX hbl hbA hS (inr_ok rfl) dL_law_197 ?_
  refine W.eq (g2 := F0 m 198 ls [.int z1, .ref xo]) (by rw [ez1]; rfl) ?_
  refine lv_aload_n hx hb dL_law_198 rfl (lv_at hl 3 rfl) ?_
  refine lv_iload_n hx hb dL_law_199 rfl (lv_at hl 0 rfl) ?_
  refine lv_iconst (v := 2) hx hb dL_law_200 (by decide) ?_
  refine lv_iadd hx hb dL_law_201 ?_
  refine lv_topi (fun y_2 ey_2 => ?_)
  obtain rfl : y_2 = 2 := ey_2.trans (by decide)
  refine va_sld hx hb hX hbl hbA hS (inr_ok rfl) dL_law_202 ?_
  refine W.eq (g2 := F0 m 203 ls [.int z2, .int z1, .ref xo]) (by rw [ez2]; rfl) ?_
  refine lv_aload_n hx hb dL_law_203 rfl (lv_at hl 3 rfl) ?_
  refine lv_iload_n hx hb dL_law_204 rfl (lv_at hl 0 rfl) ?_
  refine lv_iconst (v := 3) hx hb dL_law_205 (by decide) ?_
  refine lv_iadd hx hb dL_law_206 ?_
  refine lv_topi (fun y_3 ey_3 => ?_)
  obtain rfl : y_3 = 3 := ey_3.trans (by decide)
  refine va_sld hx hb hX hbl hbA hS (inr_ok rfl) dL_law_207 ?_
  refine W.eq (g2 := F0 m 208 ls [.int z3, .int z2, .int z1, .ref xo]) (by rw [ez3]; rfl) ?_
  refine lv_aload_n hx hb dL_law_208 rfl (lv_at hl 3 rfl) ?_
  refine lv_iload_n hx hb dL_law_209 rfl (lv_at hl 0 rfl) ?_
  refine lv_iconst (v := 4) hx hb dL_law_210 (by decide) ?_
  refine lv_iadd hx hb dL_law_211 ?_
  refine lv_topi (fun y_4 ey_4 => ?_)
  obtain rfl : y_4 = 4 := ey_4.trans (by decide)
  refine va_sld hx hb hX hbl hbA hS (inr_ok rfl) dL_law_212 ?_
  refine W.eq (g2 := F0 m 213 ls [.int z4, .int z3, .int z2, .int z1, .ref xo]) (by rw [ez4]; rfl) ?_
  refine lv_aload_n hx hb dL_law_213 rfl (lv_at hl 3 rfl) ?_
  refine lv_iload_n hx hb dL_law_214 rfl (lv_at hl 0 rfl) ?_
  refine lv_iconst (v := 5) hx hb dL_law_215 (by decide) ?_
  refine lv_iadd hx hb dL_law_216 ?_
  refine lv_topi (fun y_5 ey_5 => ?_)
  obtain rfl : y_5 = 5 := ey_5.trans (by decide)
  refine va_sld hx hb hX hbl hbA hS (inr_ok rfl) dL_law_217 ?_
  refine W.eq (g2 := F0 m 218 ls [.int z5, .int z4, .int z3, .int z2, .int z1, .ref xo]) (by rw [ez5]; rfl) ?_
  have hPc := hP.sub (ws' := [(xo, .inr (11, [.ref xq1, .int 0, .ref xq3, .ref xq7, .ref xq12, .int 0, .int (-1), .ref xq14, .ref xq24, .ref xq34, .ref xq36, .ref xq38, .ref xq48, .ref xq51, .ref xq53, .ref xq55, .ref xq57, .ref xq59, .int 0])), (xq1, .inl (xk2, 400, .inl (fun _ => 0)))]) [0, 1] rfl
  have hDc := hD.sub (ws' := [(xo, .inr (11, [.ref xq1, .int 0, .ref xq3, .ref xq7, .ref xq12, .int 0, .int (-1), .ref xq14, .ref xq24, .ref xq34, .ref xq36, .ref xq38, .ref xq48, .ref xq51, .ref xq53, .ref xq55, .ref xq57, .ref xq59, .int 0])), (xq1, .inl (xk2, 400, .inl (fun _ => 0)))]) [0, 1] (by decide) rfl
  have hKc := hK.sub (tys' := [(xk2, .int)]) [0] rfl
  have hFc := va_free (wc := [(xo, .inr (11, [.ref xq1, .int 0, .ref xq3, .ref xq7, .ref xq12, .int 0, .int (-1), .ref xq14, .ref xq24, .ref xq34, .ref xq36, .ref xq38, .ref xq48, .ref xq51, .ref xq53, .ref xq55, .ref xq57, .ref xq59, .int 0])), (xq1, .inl (xk2, 400, .inl (fun _ => 0)))]) hD hS hA [0, 1] rfl
  refine va_calli (va_runV (As := [.int z1, .int z2, .int z3, .int z4, .int z5]) (rest := []) ⟨hx, hb, hml, hown, hq⟩ (c_SB_feed l dC dI _ xo xq1 xq3 xq7 xq12 xq14 xq24 xq34 xq36 xq38 xq48 xq51 xq53 xq55 xq57 xq59 xk2 (fun _ => 0) z1 z2 z3 z4 z5 ) (cwV 5 hq (gV qw_507 qw_508 qw_509 qw_119 qw_510) rfl rfl rfl (by decide +kernel) ⟨Nat.le_of_ble_eq_true rfl, Nat.le_of_ble_eq_true rfl⟩) ⟨fun a U g mk q => by obtain ⟨q0, q1, qP, qK, qD, qE⟩ := q; exact ⟨q0, q1, qP, va_K.moved (u := U) (U := U.calling g mk a) (Vm.Alike.refl U.vm) qK, qD, xE.same rfl qE⟩, va_recv hKc hPc (ci := 11) (q0 := 0) rfl rfl, fun U hU hW => ⟨rfl, by rw [hU], by rw [hU]; exact hPc, va_K.moved hW.alike hKc, hDc.weaken (fun _ _ _ _ => trivial), xE.warm hW hE⟩⟩ rfl rfl hl.1 rfl (lv_room (Nat.le_of_ble_eq_true rfl)) dL_law_218 ⟨Nat.le_of_ble_eq_true rfl, Nat.le_of_ble_eq_true rfl⟩) hS (fun q _ h => hFc q h) hFc (fun r_6 u t H1 locs ht hvm hw hB hz1 hk1 hS => ?_)
  have hP1 : va_P (dC, dI) classes [] H1 := vP_nil
  have hD1 : va_D (va_A [(xo, .inr (11, [.ref xq1, .int 0, .ref xq3, .ref xq7, .ref xq12, .int 0, .int (-1), .ref xq14, .ref xq24, .ref xq34, .ref xq36, .ref xq38, .ref xq48, .ref xq51, .ref xq53, .ref xq55, .ref xq57, .ref xq59, .int 0])), (xq1, .inl (xk2, 400, .inl (fun _ => 0)))] H.size) [] := vD_nil
  obtain ⟨hP, hD⟩ := va_join (wr := [(mo, .inr (12, [.ref mq1, .int 0, .int 0, .ref mq3, .ref mq5, .ref mq7, .ref mq9, .ref mq11, .int 0, .int 0, .int 0, .int 0, .int 0, .int 0, .int 0, .ref mq13, .int 0, .ref mq15, .int 0, .ref mq17, .ref mq19, .int (-1), .int 0, .int 0, .int 0, .int 0, .int 0, .ref mq21, .int 0, .ref mq23, .ref mq25, .ref mq27, .int 0, .int 0, .int 0, .ref mq29, .ref mq31, .ref mq33, .long 0, .ref mq35, .ref mq37, .ref mq39, .ref mq41])), (mq1, .inl (mk2, 400, .inl (fun _ => 0)))]) (w1 := []) hP hD [0, 1] [2, 3] rfl rfl (by decide) (by decide) hk1 hFc hP1 hD1
  generalize H1 = H at hP hS ⊢
  have hP : va_P (dC, dI) classes [(mo, .inr (12, [.ref mq1, .int 0, .int 0, .ref mq3, .ref mq5, .ref mq7, .ref mq9, .ref mq11, .int 0, .int 0, .int 0, .int 0, .int 0, .int 0, .int 0, .ref mq13, .int 0, .ref mq15, .int 0, .ref mq17, .ref mq19, .int (-1), .int 0, .int 0, .int 0, .int 0, .int 0, .ref mq21, .int 0, .ref mq23, .ref mq25, .ref mq27, .int 0, .int 0, .int 0, .ref mq29, .ref mq31, .ref mq33, .long 0, .ref mq35, .ref mq37, .ref mq39, .ref mq41])), (mq1, .inl (mk2, 400, .inl (fun _ => 0)))] H := hP
  have hD : va_D A [(mo, .inr (12, [.ref mq1, .int 0, .int 0, .ref mq3, .ref mq5, .ref mq7, .ref mq9, .ref mq11, .int 0, .int 0, .int 0, .int 0, .int 0, .int 0, .int 0, .ref mq13, .int 0, .ref mq15, .int 0, .ref mq17, .ref mq19, .int (-1), .int 0, .int 0, .int 0, .int 0, .int 0, .ref mq21, .int 0, .ref mq23, .ref mq25, .ref mq27, .int 0, .int 0, .int 0, .ref mq29, .ref mq31, .ref mq33, .long 0, .ref mq35, .ref mq37, .ref mq39, .ref mq41])), (mq1, .inl (mk2, 400, .inl (fun _ => 0)))] := hD
  obtain rfl : r_6 = 20 := hw
  refine lv_aload_n hx hb dL_law_221 rfl (lv_at hl 1 rfl) ?_
  refine lv_aload_n hx hb dL_law_222 rfl (lv_at hl 3 rfl) ?_
  refine lv_iload_n hx hb dL_law_223 rfl (lv_at hl 0 rfl) ?_
  refine lv_iconst (v := 1) hx hb dL_law_224 (by decide) ?_
  refine lv_iadd hx hb dL_law_225 ?_
  refine lv_topi (fun y_7 ey_7 => ?_)
  obtain rfl : y_7 = 1 := ey_7.trans (by decide)
  refine va_sld hx hb hX hbl hbA hS (inr_ok rfl) dL_law_226 ?_
  refine W.eq (g2 := F0 m 227 ls [.int z1, .ref mo, .int 20]) (by rw [ez1]; rfl) ?_
  refine lv_aload_n hx hb dL_law_227 rfl (lv_at hl 3 rfl) ?_
  refine lv_iload_n hx hb dL_law_228 rfl (lv_at hl 0 rfl) ?_
  refine lv_iconst (v := 2) hx hb dL_law_229 (by decide) ?_
  refine lv_iadd hx hb dL_law_230 ?_
  refine lv_topi (fun y_8 ey_8 => ?_)
  obtain rfl : y_8 = 2 := ey_8.trans (by decide)
  refine va_sld hx hb hX hbl hbA hS (inr_ok rfl) dL_law_231 ?_
  refine W.eq (g2 := F0 m 232 ls [.int z2, .int z1, .ref mo, .int 20]) (by rw [ez2]; rfl) ?_
  refine lv_aload_n hx hb dL_law_232 rfl (lv_at hl 3 rfl) ?_
  refine lv_iload_n hx hb dL_law_233 rfl (lv_at hl 0 rfl) ?_
  refine lv_iconst (v := 3) hx hb dL_law_234 (by decide) ?_
  refine lv_iadd hx hb dL_law_235 ?_
  refine lv_topi (fun y_9 ey_9 => ?_)
  obtain rfl : y_9 = 3 := ey_9.trans (by decide)
  refine va_sld hx hb hX hbl hbA hS (inr_ok rfl) dL_law_236 ?_
  refine W.eq (g2 := F0 m 237 ls [.int z3, .int z2, .int z1, .ref mo, .int 20]) (by rw [ez3]; rfl) ?_
  refine lv_aload_n hx hb dL_law_237 rfl (lv_at hl 3 rfl) ?_
  refine lv_iload_n hx hb dL_law_238 rfl (lv_at hl 0 rfl) ?_
  refine lv_iconst (v := 4) hx hb dL_law_239 (by decide) ?_
  refine lv_iadd hx hb dL_law_240 ?_
  refine lv_topi (fun y_10 ey_10 => ?_)
  obtain rfl : y_10 = 4 := ey_10.trans (by decide)
  refine va_sld hx hb hX hbl hbA hS (inr_ok rfl) dL_law_241 ?_
  refine W.eq (g2 := F0 m 242 ls [.int z4, .int z3, .int z2, .int z1, .ref mo, .int 20]) (by rw [ez4]; rfl) ?_
  refine lv_aload_n hx hb dL_law_242 rfl (lv_at hl 3 rfl) ?_
  refine lv_iload_n hx hb dL_law_243 rfl (lv_at hl 0 rfl) ?_
  refine lv_iconst (v := 5) hx hb dL_law_244 (by decide) ?_
  refine lv_iadd hx hb dL_law_245 ?_
  refine lv_topi (fun y_11 ey_11 => ?_)
  obtain rfl : y_11 = 5 := ey_11.trans (by decide)
  refine va_sld hx hb hX hbl hbA hS (inr_ok rfl) dL_law_246 ?_
  refine W.eq (g2 := F0 m 247 ls [.int z5, .int z4, .int z3, .int z2, .int z1, .ref mo, .int 20]) (by rw [ez5]; rfl) ?_
  have hPc := hP.sub (ws' := [(mo, .inr (12, [.ref mq1, .int 0, .int 0, .ref mq3, .ref mq5, .ref mq7, .ref mq9, .ref mq11, .int 0, .int 0, .int 0, .int 0, .int 0, .int 0, .int 0, .ref mq13, .int 0, .ref mq15, .int 0, .ref mq17, .ref mq19, .int (-1), .int 0, .int 0, .int 0, .int 0, .int 0, .ref mq21, .int 0, .ref mq23, .ref mq25, .ref mq27, .int 0, .int 0, .int 0, .ref mq29, .ref mq31, .ref mq33, .long 0, .ref mq35, .ref mq37, .ref mq39, .ref mq41])), (mq1, .inl (mk2, 400, .inl (fun _ => 0)))]) [0, 1] rfl
  have hDc := hD.sub (ws' := [(mo, .inr (12, [.ref mq1, .int 0, .int 0, .ref mq3, .ref mq5, .ref mq7, .ref mq9, .ref mq11, .int 0, .int 0, .int 0, .int 0, .int 0, .int 0, .int 0, .ref mq13, .int 0, .ref mq15, .int 0, .ref mq17, .ref mq19, .int (-1), .int 0, .int 0, .int 0, .int 0, .int 0, .ref mq21, .int 0, .ref mq23, .ref mq25, .ref mq27, .int 0, .int 0, .int 0, .ref mq29, .ref mq31, .ref mq33, .long 0, .ref mq35, .ref mq37, .ref mq39, .ref mq41])), (mq1, .inl (mk2, 400, .inl (fun _ => 0)))]) [0, 1] (by decide) rfl
  have hKc := hK.sub (tys' := [(mk2, .byte)]) [1] rfl
  have hFc := va_free (wc := [(mo, .inr (12, [.ref mq1, .int 0, .int 0, .ref mq3, .ref mq5, .ref mq7, .ref mq9, .ref mq11, .int 0, .int 0, .int 0, .int 0, .int 0, .int 0, .int 0, .ref mq13, .int 0, .ref mq15, .int 0, .ref mq17, .ref mq19, .int (-1), .int 0, .int 0, .int 0, .int 0, .int 0, .ref mq21, .int 0, .ref mq23, .ref mq25, .ref mq27, .int 0, .int 0, .int 0, .ref mq29, .ref mq31, .ref mq33, .long 0, .ref mq35, .ref mq37, .ref mq39, .ref mq41])), (mq1, .inl (mk2, 400, .inl (fun _ => 0)))]) hD hS hA [0, 1] rfl
  refine va_calli (va_runV (As := [.int z1, .int z2, .int z3, .int z4, .int z5]) (rest := [.int 20]) ⟨hx, hb, hml, hown, hq⟩ (c_M_feed l dC dI _ mo mq1 mq3 mq5 mq7 mq9 mq11 mq13 mq15 mq17 mq19 mq21 mq23 mq25 mq27 mq29 mq31 mq33 mq35 mq37 mq39 mq41 mk2 (fun _ => 0) z1 z2 z3 z4 z5 ) (cwV 5 hq (gV qw_1291 qw_1292 qw_1293 qw_131 qw_1294) rfl rfl rfl (by decide +kernel) ⟨Nat.le_of_ble_eq_true rfl, Nat.le_of_ble_eq_true rfl⟩) ⟨fun a U g mk q => by obtain ⟨q0, q1, qP, qK, qD, qE⟩ := q; exact ⟨q0, q1, qP, va_K.moved (u := U) (U := U.calling g mk a) (Vm.Alike.refl U.vm) qK, qD, xE.same rfl qE⟩, va_recv hKc hPc (ci := 12) (q0 := 0) rfl rfl, fun U hU hW => ⟨rfl, by rw [hU], by rw [hU]; exact hPc, va_K.moved hW.alike hKc, hDc.weaken (fun _ _ _ _ => trivial), xE.warm hW hE⟩⟩ rfl rfl hl.1 rfl (lv_room (Nat.le_of_ble_eq_true rfl)) dL_law_247 ⟨Nat.le_of_ble_eq_true rfl, Nat.le_of_ble_eq_true rfl⟩) hS (fun q _ h => hFc q h) hFc (fun r_12 u t H1 locs ht hvm hw hB hz1 hk1 hS => ?_)
  have hP1 : va_P (dC, dI) classes [] H1 := vP_nil
  have hD1 : va_D (va_A [(mo, .inr (12, [.ref mq1, .int 0, .int 0, .ref mq3, .ref mq5, .ref mq7, .ref mq9, .ref mq11, .int 0, .int 0, .int 0, .int 0, .int 0, .int 0, .int 0, .ref mq13, .int 0, .ref mq15, .int 0, .ref mq17, .ref mq19, .int (-1), .int 0, .int 0, .int 0, .int 0, .int 0, .ref mq21, .int 0, .ref mq23, .ref mq25, .ref mq27, .int 0, .int 0, .int 0, .ref mq29, .ref mq31, .ref mq33, .long 0, .ref mq35, .ref mq37, .ref mq39, .ref mq41])), (mq1, .inl (mk2, 400, .inl (fun _ => 0)))] H.size) [] := vD_nil
  obtain ⟨hP, hD⟩ := va_join (wr := []) (w1 := []) hP hD [0, 1] [] rfl rfl (by decide) (by decide) hk1 hFc hP1 hD1
  generalize H1 = H at hP hS ⊢
  have hP : va_P (dC, dI) classes [] H := hP
  have hD : va_D A [] := hD
  obtain rfl : r_12 = 20 := hw
  refine lv_icmp_eq (tgt := 1210) hx hb dL_law_250 (by decide) (fun _ => ?_) (fun c9 => absurd c9 (by decide))
  exact law_end C0 hAq hS (lv_sub hl [0, 1, 2, 3] rfl)
set_option maxHeartbeats 4000000 in
set_option maxRecDepth 100000 in
/-- end, the first call -/
theorem law_1 {p : Program} {l : Launch} {e : Env} {s : State} {m : MethodId} {below : List Frame} {meth : Method} {c : Code} {A : Nat → Prop} {kA vA : Nat → Nat} {dC : Nat → ClassId} {dI : Nat → Nat → Nat} {b : Nat} {xs : Nat → Int32} {xo : Nat} {mo : Nat} {xq1 : Nat} {xq3 : Nat} {xq7 : Nat} {xq12 : Nat} {xq14 : Nat} {xq24 : Nat} {xq34 : Nat} {xq36 : Nat} {xq38 : Nat} {xq48 : Nat} {xq51 : Nat} {xq53 : Nat} {xq55 : Nat} {xq57 : Nat} {xq59 : Nat} {mq1 : Nat} {mq3 : Nat} {mq5 : Nat} {mq7 : Nat} {mq9 : Nat} {mq11 : Nat} {mq13 : Nat} {mq15 : Nat} {mq17 : Nat} {mq19 : Nat} {mq21 : Nat} {mq23 : Nat} {mq25 : Nat} {mq27 : Nat} {mq29 : Nat} {mq31 : Nat} {mq33 : Nat} {mq35 : Nat} {mq37 : Nat} {mq39 : Nat} {mq41 : Nat} (C0 : lw_At p s m meth c b 6 xs) (hA : ∀ q : Nat, s.heap.size ≤ q → A q) (hAq : ∀ q : Nat, A q → s.heap.size ≤ q) (hE : xE s) (hT : xT kA vA A s s.heap) (hK : va_K (dC, dI) classes [] s) {H : Heap} {locs : List Loc} (hP : va_P (dC, dI) classes [(xo, .inr (11, [.ref xq1, .int 0, .ref xq3, .ref xq7, .ref xq12, .int 0, .int (-1), .ref xq14, .ref xq24, .ref xq34, .ref xq36, .ref xq38, .ref xq48, .ref xq51, .ref xq53, .ref xq55, .ref xq57, .ref xq59, .int 0])), (mo, .inr (12, [.ref mq1, .int 0, .int 0, .ref mq3, .ref mq5, .ref mq7, .ref mq9, .ref mq11, .int 0, .int 0, .int 0, .int 0, .int 0, .int 0, .int 0, .ref mq13, .int 0, .ref mq15, .int 0, .ref mq17, .ref mq19, .int (-1), .int 0, .int 0, .int 0, .int 0, .int 0, .ref mq21, .int 0, .ref mq23, .ref mq25, .ref mq27, .int 0, .int 0, .int 0, .ref mq29, .ref mq31, .ref mq33, .long 0, .ref mq35, .ref mq37, .ref mq39, .ref mq41]))] H) (hD : va_D A [(xo, .inr (11, [.ref xq1, .int 0, .ref xq3, .ref xq7, .ref xq12, .int 0, .int (-1), .ref xq14, .ref xq24, .ref xq34, .ref xq36, .ref xq38, .ref xq48, .ref xq51, .ref xq53, .ref xq55, .ref xq57, .ref xq59, .int 0])), (mo, .inr (12, [.ref mq1, .int 0, .int 0, .ref mq3, .ref mq5, .ref mq7, .ref mq9, .ref mq11, .int 0, .int 0, .int 0, .int 0, .int 0, .int 0, .int 0, .ref mq13, .int 0, .ref mq15, .int 0, .ref mq17, .ref mq19, .int (-1), .int 0, .int 0, .int 0, .int 0, .int 0, .ref mq21, .int 0, .ref mq23, .ref mq25, .ref mq27, .int 0, .int 0, .int 0, .ref mq29, .ref mq31, .ref mq33, .long 0, .ref mq35, .ref mq37, .ref mq39, .ref mq41]))]) (hS : va_S A s.heap H locs) {ls : Array Slot} (hl : lv_has ls 4 [(3, .int 0), (2, .ref mo), (1, .ref xo), (0, .ref b)]) : W p l e room_1 s m #[Value.ref b] below meth c H locs 152 8829 (lw_Z below #[Value.ref b] s) (F0 m 255 ls []) := by
  obtain ⟨hx, hb, hr, hml, hown, hts, hX, hbl, hlocks, hgv⟩ := id C0
  have hown : s.vm.findClass RL = some m.cls := hown
  have hq : ∀ w ∈ wsA, w.before _ s = true := fun w h => hts w (List.mem_filter.mp h).1
  have hbA : ¬ A b := fun h => Nat.not_le.mpr hbl (hAq b h)
  obtain ⟨z1, ez1⟩ : ∃ z : Int32, z = xs 1 := ⟨_, rfl⟩
  refine lv_aload_n hx hb dL_law_255 rfl (lv_at hl 2 rfl) ?_
  refine lv_aload_n hx hb dL_law_256 rfl (lv_at hl 3 rfl) ?_
  refine lv_iload_n hx hb dL_law_257 rfl (lv_at hl 0 rfl) ?_
  refine lv_iconst (v := 1) hx hb dL_law_258 (by decide) ?_
  refine lv_iadd hx hb dL_law_259 ?_
  refine lv_topi (fun y_1 ey_1 => ?_)
  obtain rfl : y_1 = 1 := ey_1.trans (by decide)
  refine va_sld hx hb hX hbl hbA hS (inr_ok rfl) dL_law_260 ?_
  refine W.eq (g2 := F0 m 261 ls [.int z1, .ref xo]) (by rw [ez1]; rfl) ?_
  have hPc := hP.sub (ws' := [(xo, .inr (11, [.ref xq1, .int 0, .ref xq3, .ref xq7, .ref xq12, .int 0, .int (-1), .ref xq14, .ref xq24, .ref xq34, .ref xq36, .ref xq38, .ref xq48, .ref xq51, .ref xq53, .ref xq55, .ref xq57, .ref xq59, .int 0]))]) [0] rfl
  have hDc := hD.sub (ws' := [(xo, .inr (11, [.ref xq1, .int 0, .ref xq3, .ref xq7, .ref xq12, .int 0, .int (-1), .ref xq14, .ref xq24, .ref xq34, .ref xq36, .ref xq38, .ref xq48, .ref xq51, .ref xq53, .ref xq55, .ref xq57, .ref xq59, .int 0]))]) [0] (by decide) rfl
  have hKc := hK.sub (tys' := []) [] rfl
  have hFc := va_free (wc := [(xo, .inr (11, [.ref xq1, .int 0, .ref xq3, .ref xq7, .ref xq12, .int 0, .int (-1), .ref xq14, .ref xq24, .ref xq34, .ref xq36, .ref xq38, .ref xq48, .ref xq51, .ref xq53, .ref xq55, .ref xq57, .ref xq59, .int 0]))]) hD hS hA [0] rfl
  refine va_calli (va_runV (As := [.int z1]) (rest := []) ⟨hx, hb, hml, hown, hq⟩ (c_SB_end l dC dI _ xo xq1 xq3 xq7 xq12 xq14 xq24 xq34 xq36 xq38 xq48 xq51 xq53 xq55 xq57 xq59 z1 ) (cwV 1 hq (gV qw_515 qw_516 qw_517 qw_119 qw_518) rfl rfl rfl (by decide +kernel) ⟨Nat.le_of_ble_eq_true rfl, Nat.le_of_ble_eq_true rfl⟩) ⟨fun a U g mk q => by obtain ⟨q0, q1, qP, qK, qD, qE⟩ := q; exact ⟨q0, q1, qP, va_K.moved (u := U) (U := U.calling g mk a) (Vm.Alike.refl U.vm) qK, qD, xE.same rfl qE⟩, va_recv hKc hPc (ci := 11) (q0 := 0) rfl rfl, fun U hU hW => ⟨rfl, by rw [hU], by rw [hU]; exact hPc, va_K.moved hW.alike hKc, hDc.weaken (fun _ _ _ _ => trivial), xE.warm hW hE⟩⟩ rfl rfl hl.1 rfl (lv_room (Nat.le_of_ble_eq_true rfl)) dL_law_261 ⟨Nat.le_of_ble_eq_true rfl, Nat.le_of_ble_eq_true rfl⟩) hS (fun q _ h => hFc q h) hFc (fun r_2 u t H1 locs ht hvm hw hB hz1 hk1 hS => ?_)
  have hP1 : va_P (dC, dI) classes [] H1 := vP_nil
  have hD1 : va_D (va_A [(xo, .inr (11, [.ref xq1, .int 0, .ref xq3, .ref xq7, .ref xq12, .int 0, .int (-1), .ref xq14, .ref xq24, .ref xq34, .ref xq36, .ref xq38, .ref xq48, .ref xq51, .ref xq53, .ref xq55, .ref xq57, .ref xq59, .int 0]))] H.size) [] := vD_nil
  obtain ⟨hP, hD⟩ := va_join (wr := [(mo, .inr (12, [.ref mq1, .int 0, .int 0, .ref mq3, .ref mq5, .ref mq7, .ref mq9, .ref mq11, .int 0, .int 0, .int 0, .int 0, .int 0, .int 0, .int 0, .ref mq13, .int 0, .ref mq15, .int 0, .ref mq17, .ref mq19, .int (-1), .int 0, .int 0, .int 0, .int 0, .int 0, .ref mq21, .int 0, .ref mq23, .ref mq25, .ref mq27, .int 0, .int 0, .int 0, .ref mq29, .ref mq31, .ref mq33, .long 0, .ref mq35, .ref mq37, .ref mq39, .ref mq41]))]) (w1 := []) hP hD [0] [1] rfl rfl (by decide) (by decide) hk1 hFc hP1 hD1
  generalize H1 = H at hP hS ⊢
  have hP : va_P (dC, dI) classes [(mo, .inr (12, [.ref mq1, .int 0, .int 0, .ref mq3, .ref mq5, .ref mq7, .ref mq9, .ref mq11, .int 0, .int 0, .int 0, .int 0, .int 0, .int 0, .int 0, .ref mq13, .int 0, .ref mq15, .int 0, .ref mq17, .ref mq19, .int (-1), .int 0, .int 0, .int 0, .int 0, .int 0, .ref mq21, .int 0, .ref mq23, .ref mq25, .ref mq27, .int 0, .int 0, .int 0, .ref mq29, .ref mq31, .ref mq33, .long 0, .ref mq35, .ref mq37, .ref mq39, .ref mq41]))] H := hP
  have hD : va_D A [(mo, .inr (12, [.ref mq1, .int 0, .int 0, .ref mq3, .ref mq5, .ref mq7, .ref mq9, .ref mq11, .int 0, .int 0, .int 0, .int 0, .int 0, .int 0, .int 0, .ref mq13, .int 0, .ref mq15, .int 0, .ref mq17, .ref mq19, .int (-1), .int 0, .int 0, .int 0, .int 0, .int 0, .ref mq21, .int 0, .ref mq23, .ref mq25, .ref mq27, .int 0, .int 0, .int 0, .ref mq29, .ref mq31, .ref mq33, .long 0, .ref mq35, .ref mq37, .ref mq39, .ref mq41]))] := hD
  have hr_2 := hw
  refine lv_aload_n hx hb dL_law_264 rfl (lv_at hl 1 rfl) ?_
  refine lv_aload_n hx hb dL_law_265 rfl (lv_at hl 3 rfl) ?_
  refine lv_iload_n hx hb dL_law_266 rfl (lv_at hl 0 rfl) ?_
  refine lv_iconst (v := 1) hx hb dL_law_267 (by decide) ?_
  refine lv_iadd hx hb dL_law_268 ?_
  refine lv_topi (fun y_3 ey_3 => ?_)
  obtain rfl : y_3 = 1 := ey_3.trans (by decide)
  refine va_sld hx hb hX hbl hbA hS (inr_ok rfl) dL_law_269 ?_
  refine W.eq (g2 := F0 m 270 ls [.int z1, .ref mo, .int r_2]) (by rw [ez1]; rfl) ?_
  have hPc := hP.sub (ws' := [(mo, .inr (12, [.ref mq1, .int 0, .int 0, .ref mq3, .ref mq5, .ref mq7, .ref mq9, .ref mq11, .int 0, .int 0, .int 0, .int 0, .int 0, .int 0, .int 0, .ref mq13, .int 0, .ref mq15, .int 0, .ref mq17, .ref mq19, .int (-1), .int 0, .int 0, .int 0, .int 0, .int 0, .ref mq21, .int 0, .ref mq23, .ref mq25, .ref mq27, .int 0, .int 0, .int 0, .ref mq29, .ref mq31, .ref mq33, .long 0, .ref mq35, .ref mq37, .ref mq39, .ref mq41]))]) [0] rfl
  have hDc := hD.sub (ws' := [(mo, .inr (12, [.ref mq1, .int 0, .int 0, .ref mq3, .ref mq5, .ref mq7, .ref mq9, .ref mq11, .int 0, .int 0, .int 0, .int 0, .int 0, .int 0, .int 0, .ref mq13, .int 0, .ref mq15, .int 0, .ref mq17, .ref mq19, .int (-1), .int 0, .int 0, .int 0, .int 0, .int 0, .ref mq21, .int 0, .ref mq23, .ref mq25, .ref mq27, .int 0, .int 0, .int 0, .ref mq29, .ref mq31, .ref mq33, .long 0, .ref mq35, .ref mq37, .ref mq39, .ref mq41]))]) [0] (by decide) rfl
  have hKc := hK.sub (tys' := []) [] rfl
  have hFc := va_free (wc := [(mo, .inr (12, [.ref mq1, .int 0, .int 0, .ref mq3, .ref mq5, .ref mq7, .ref mq9, .ref mq11, .int 0, .int 0, .int 0, .int 0, .int 0, .int 0, .int 0, .ref mq13, .int 0, .ref mq15, .int 0, .ref mq17, .ref mq19, .int (-1), .int 0, .int 0, .int 0, .int 0, .int 0, .ref mq21, .int 0, .ref mq23, .ref mq25, .ref mq27, .int 0, .int 0, .int 0, .ref mq29, .ref mq31, .ref mq33, .long 0, .ref mq35, .ref mq37, .ref mq39, .ref mq41]))]) hD hS hA [0] rfl
  refine va_calli (va_runV (As := [.int z1]) (rest := [.int r_2]) ⟨hx, hb, hml, hown, hq⟩ (c_M_end l dC dI _ mo mq1 mq3 mq5 mq7 mq9 mq11 mq13 mq15 mq17 mq19 mq21 mq23 mq25 mq27 mq29 mq31 mq33 mq35 mq37 mq39 mq41 z1 ) (cwV 1 hq (gV qw_1299 qw_1300 qw_1301 qw_131 qw_1302) rfl rfl rfl (by decide +kernel) ⟨Nat.le_of_ble_eq_true rfl, Nat.le_of_ble_eq_true rfl⟩) ⟨fun a U g mk q => by obtain ⟨q0, q1, qP, qK, qD, qE⟩ := q; exact ⟨q0, q1, qP, va_K.moved (u := U) (U := U.calling g mk a) (Vm.Alike.refl U.vm) qK, qD, xE.same rfl qE⟩, va_recv hKc hPc (ci := 12) (q0 := 0) rfl rfl, fun U hU hW => ⟨rfl, by rw [hU], by rw [hU]; exact hPc, va_K.moved hW.alike hKc, hDc.weaken (fun _ _ _ _ => trivial), xE.warm hW hE⟩⟩ rfl rfl hl.1 rfl (lv_room (Nat.le_of_ble_eq_true rfl)) dL_law_270 ⟨Nat.le_of_ble_eq_true rfl, Nat.le_of_ble_eq_true rfl⟩) hS (fun q _ h => hFc q h) hFc (fun r_4 u t H1 locs ht hvm hw hB hz1 hk1 hS => ?_)
  have hP1 : va_P (dC, dI) classes [] H1 := vP_nil
  have hD1 : va_D (va_A [(mo, .inr (12, [.ref mq1, .int 0, .int 0, .ref mq3, .ref mq5, .ref mq7, .ref mq9, .ref mq11, .int 0, .int 0, .int 0, .int 0, .int 0, .int 0, .int 0, .ref mq13, .int 0, .ref mq15, .int 0, .ref mq17, .ref mq19, .int (-1), .int 0, .int 0, .int 0, .int 0, .int 0, .ref mq21, .int 0, .ref mq23, .ref mq25, .ref mq27, .int 0, .int 0, .int 0, .ref mq29, .ref mq31, .ref mq33, .long 0, .ref mq35, .ref mq37, .ref mq39, .ref mq41]))] H.size) [] := vD_nil
  obtain ⟨hP, hD⟩ := va_join (wr := []) (w1 := []) hP hD [0] [] rfl rfl (by decide) (by decide) hk1 hFc hP1 hD1
  generalize H1 = H at hP hS ⊢
  have hP : va_P (dC, dI) classes [] H := hP
  have hD : va_D A [] := hD
  have hr_4 := hw
  refine lv_icmp_eq (tgt := 1210) hx hb dL_law_273 (by decide) (fun _ => ?_) (fun c9 => absurd (eqP hr_2 hr_4) c9)
  exact law_end C0 hAq hS (lv_sub hl [0, 1, 2, 3] rfl)
set_option maxHeartbeats 4000000 in
set_option maxRecDepth 100000 in
/-- dinner, the first call -/
theorem law_2 {p : Program} {l : Launch} {e : Env} {s : State} {m : MethodId} {below : List Frame} {meth : Method} {c : Code} {A : Nat → Prop} {kA vA : Nat → Nat} {dC : Nat → ClassId} {dI : Nat → Nat → Nat} {b : Nat} {xs : Nat → Int32} {xo : Nat} {mo : Nat} {xq1 : Nat} {xq3 : Nat} {xq7 : Nat} {xq12 : Nat} {xq14 : Nat} {xq24 : Nat} {xq34 : Nat} {xq36 : Nat} {xq38 : Nat} {xq48 : Nat} {xq51 : Nat} {xq53 : Nat} {xq55 : Nat} {xq57 : Nat} {xq59 : Nat} {xk2 : ClassId} {xq5 : Nat} {xq6 : Nat} {xq26 : Nat} {xq27 : Nat} {xq28 : Nat} {xq29 : Nat} {xk33 : ClassId} {mq1 : Nat} {mq3 : Nat} {mq5 : Nat} {mq7 : Nat} {mq9 : Nat} {mq11 : Nat} {mq13 : Nat} {mq15 : Nat} {mq17 : Nat} {mq19 : Nat} {mq21 : Nat} {mq23 : Nat} {mq25 : Nat} {mq27 : Nat} {mq29 : Nat} {mq31 : Nat} {mq33 : Nat} {mq35 : Nat} {mq37 : Nat} {mq39 : Nat} {mq41 : Nat} {mk6 : ClassId} {mk12 : ClassId} (C0 : lw_At p s m meth c b 6 xs) (hA : ∀ q : Nat, s.heap.size ≤ q → A q) (hAq : ∀ q : Nat, A q → s.heap.size ≤ q) (hE : xE s) (hT : xT kA vA A s s.heap) (hK : va_K (dC, dI) classes [(xk2, .int), (xk33, .int), (mk6, .int), (mk12, .int)] s) {H : Heap} {locs : List Loc} (hP : va_P (dC, dI) classes [(xo, .inr (11, [.ref xq1, .int 0, .ref xq3, .ref xq7, .ref xq12, .int 0, .int (-1), .ref xq14, .ref xq24, .ref xq34, .ref xq36, .ref xq38, .ref xq48, .ref xq51, .ref xq53, .ref xq55, .ref xq57, .ref xq59, .int 0])), (xq1, .inl (xk2, 400, .inl (fun _ => 0))), (xq3, .inr (2, [.ref xq5])), (xq5, .inr (7, [.ref xq6, .int 0, .int 0, .int 0])), (xq24, .inr (1, [.int 0, .int 0, .int 0, .ref xq26, .ref xq27, .ref xq28, .ref xq29])), (xq29, .inl (xk33, 8, .inl (fun _ => 0))), (mo, .inr (12, [.ref mq1, .int 0, .int 0, .ref mq3, .ref mq5, .ref mq7, .ref mq9, .ref mq11, .int 0, .int 0, .int 0, .int 0, .int 0, .int 0, .int 0, .ref mq13, .int 0, .ref mq15, .int 0, .ref mq17, .ref mq19, .int (-1), .int 0, .int 0, .int 0, .int 0, .int 0, .ref mq21, .int 0, .ref mq23, .ref mq25, .ref mq27, .int 0, .int 0, .int 0, .ref mq29, .ref mq31, .ref mq33, .long 0, .ref mq35, .ref mq37, .ref mq39, .ref mq41])), (mq5, .inl (mk6, 7, .inl (fun _ => 0))), (mq11, .inl (mk12, 59, .inl (fun _ => 0)))] H) (hD : va_D A [(xo, .inr (11, [.ref xq1, .int 0, .ref xq3, .ref xq7, .ref xq12, .int 0, .int (-1), .ref xq14, .ref xq24, .ref xq34, .ref xq36, .ref xq38, .ref xq48, .ref xq51, .ref xq53, .ref xq55, .ref xq57, .ref xq59, .int 0])), (xq1, .inl (xk2, 400, .inl (fun _ => 0))), (xq3, .inr (2, [.ref xq5])), (xq5, .inr (7, [.ref xq6, .int 0, .int 0, .int 0])), (xq24, .inr (1, [.int 0, .int 0, .int 0, .ref xq26, .ref xq27, .ref xq28, .ref xq29])), (xq29, .inl (xk33, 8, .inl (fun _ => 0))), (mo, .inr (12, [.ref mq1, .int 0, .int 0, .ref mq3, .ref mq5, .ref mq7, .ref mq9, .ref mq11, .int 0, .int 0, .int 0, .int 0, .int 0, .int 0, .int 0, .ref mq13, .int 0, .ref mq15, .int 0, .ref mq17, .ref mq19, .int (-1), .int 0, .int 0, .int 0, .int 0, .int 0, .ref mq21, .int 0, .ref mq23, .ref mq25, .ref mq27, .int 0, .int 0, .int 0, .ref mq29, .ref mq31, .ref mq33, .long 0, .ref mq35, .ref mq37, .ref mq39, .ref mq41])), (mq5, .inl (mk6, 7, .inl (fun _ => 0))), (mq11, .inl (mk12, 59, .inl (fun _ => 0)))]) (hS : va_S A s.heap H locs) {ls : Array Slot} (hl : lv_has ls 4 [(3, .int 0), (2, .ref mo), (1, .ref xo), (0, .ref b)]) : W p l e room_1 s m #[Value.ref b] below meth c H locs 152 8829 (lw_Z below #[Value.ref b] s) (F0 m 278 ls []) := by
  obtain ⟨hx, hb, hr, hml, hown, hts, hX, hbl, hlocks, hgv⟩ := id C0
  have hown : s.vm.findClass RL = some m.cls := hown
  have hq : ∀ w ∈ wsA, w.before _ s = true := fun w h => hts w (List.mem_filter.mp h).1
  have hbA : ¬ A b := fun h => Nat.not_le.mpr hbl (hAq b h)
  refine lv_aload_n hx hb dL_law_278 rfl (lv_at hl 2 rfl) ?_
  have hPc := hP.sub (ws' := [(xo, .inr (11, [.ref xq1, .int 0, .ref xq3, .ref xq7, .ref xq12, .int 0, .int (-1), .ref xq14, .ref xq24, .ref xq34, .ref xq36, .ref xq38, .ref xq48, .ref xq51, .ref xq53, .ref xq55, .ref xq57, .ref xq59, .int 0])), (xq3, .inr (2, [.ref xq5])), (xq5, .inr (7, [.ref xq6, .int 0, .int 0, .int 0])), (xq1, .inl (xk2, 400, .inl (fun _ => 0))), (xq24, .inr (1, [.int 0, .int 0, .int 0, .ref xq26, .ref xq27, .ref xq28, .ref xq29])), (xq29, .inl (xk33, 8, .inl (fun _ => 0)))]) [0, 2, 3, 1, 4, 5] rfl
  have hDc := hD.sub (ws' := [(xo, .inr (11, [.ref xq1, .int 0, .ref xq3, .ref xq7, .ref xq12, .int 0, .int (-1), .ref xq14, .ref xq24, .ref xq34, .ref xq36, .ref xq38, .ref xq48, .ref xq51, .ref xq53, .ref xq55, .ref xq57, .ref xq59, .int 0])), (xq3, .inr (2, [.ref xq5])), (xq5, .inr (7, [.ref xq6, .int 0, .int 0, .int 0])), (xq1, .inl (xk2, 400, .inl (fun _ => 0))), (xq24, .inr (1, [.int 0, .int 0, .int 0, .ref xq26, .ref xq27, .ref xq28, .ref xq29])), (xq29, .inl (xk33, 8, .inl (fun _ => 0)))]) [0, 2, 3, 1, 4, 5] (by decide) rfl
  have hKc := hK.sub (tys' := [(xk2, .int), (xk33, .int)]) [0, 1] rfl
  have hFc := va_free (wc := [(xo, .inr (11, [.ref xq1, .int 0, .ref xq3, .ref xq7, .ref xq12, .int 0, .int (-1), .ref xq14, .ref xq24, .ref xq34, .ref xq36, .ref xq38, .ref xq48, .ref xq51, .ref xq53, .ref xq55, .ref xq57, .ref xq59, .int 0])), (xq3, .inr (2, [.ref xq5])), (xq5, .inr (7, [.ref xq6, .int 0, .int 0, .int 0])), (xq1, .inl (xk2, 400, .inl (fun _ => 0))), (xq24, .inr (1, [.int 0, .int 0, .int 0, .ref xq26, .ref xq27, .ref xq28, .ref xq29])), (xq29, .inl (xk33, 8, .inl (fun _ => 0)))]) hD hS hA [0, 2, 3, 1, 4, 5] rfl
  refine va_calli (va_runV (As := []) (rest := []) ⟨hx, hb, hml, hown, hq⟩ (c_SB_dinner l dC dI _ kA vA xo xq1 xq3 xq7 xq12 xq14 xq24 xq34 xq36 xq38 xq48 xq51 xq53 xq55 xq57 xq59 xq5 xq6 xq26 xq27 xq28 xq29 xk2 (fun _ => 0) xk33 (fun _ => 0) ) (cwV 0 hq (gV qw_519 qw_520 qw_521 qw_119 qw_522) rfl rfl rfl (by decide +kernel) ⟨Nat.le_of_ble_eq_true rfl, Nat.le_of_ble_eq_true rfl⟩) ⟨fun a U g mk q => by obtain ⟨q0, q1, qP, qK, qD, qE, qT⟩ := q; exact ⟨q0, q1, qP, va_K.moved (u := U) (U := U.calling g mk a) (Vm.Alike.refl U.vm) qK, qD, xE.same rfl qE, xT.same rfl qT⟩, va_recv hKc hPc (ci := 11) (q0 := 0) rfl rfl, fun U hU hW => ⟨rfl, by rw [hU], by rw [hU]; exact hPc, va_K.moved hW.alike hKc, hDc.weaken (fun _ _ _ _ => trivial), xE.warm hW hE, by rw [hU]; exact xT.call hW hT hS hFc⟩⟩ rfl rfl hl.1 rfl (lv_room (Nat.le_of_ble_eq_true rfl)) dL_law_279 ⟨Nat.le_of_ble_eq_true rfl, Nat.le_of_ble_eq_true rfl⟩) hS (fun q _ h => hFc q h) hFc (fun r_1 u t H1 locs ht hvm hw hB hz1 hk1 hS => ?_)
  have hP1 : va_P (dC, dI) classes [] H1 := vP_nil
  have hD1 : va_D (va_A [(xo, .inr (11, [.ref xq1, .int 0, .ref xq3, .ref xq7, .ref xq12, .int 0, .int (-1), .ref xq14, .ref xq24, .ref xq34, .ref xq36, .ref xq38, .ref xq48, .ref xq51, .ref xq53, .ref xq55, .ref xq57, .ref xq59, .int 0])), (xq3, .inr (2, [.ref xq5])), (xq5, .inr (7, [.ref xq6, .int 0, .int 0, .int 0])), (xq1, .inl (xk2, 400, .inl (fun _ => 0))), (xq24, .inr (1, [.int 0, .int 0, .int 0, .ref xq26, .ref xq27, .ref xq28, .ref xq29])), (xq29, .inl (xk33, 8, .inl (fun _ => 0)))] H.size) [] := vD_nil
  obtain ⟨hP, hD⟩ := va_join (wr := [(mo, .inr (12, [.ref mq1, .int 0, .int 0, .ref mq3, .ref mq5, .ref mq7, .ref mq9, .ref mq11, .int 0, .int 0, .int 0, .int 0, .int 0, .int 0, .int 0, .ref mq13, .int 0, .ref mq15, .int 0, .ref mq17, .ref mq19, .int (-1), .int 0, .int 0, .int 0, .int 0, .int 0, .ref mq21, .int 0, .ref mq23, .ref mq25, .ref mq27, .int 0, .int 0, .int 0, .ref mq29, .ref mq31, .ref mq33, .long 0, .ref mq35, .ref mq37, .ref mq39, .ref mq41])), (mq5, .inl (mk6, 7, .inl (fun _ => 0))), (mq11, .inl (mk12, 59, .inl (fun _ => 0)))]) (w1 := []) hP hD [0, 2, 3, 1, 4, 5] [6, 7, 8] rfl rfl (by decide) (by decide) hk1 hFc hP1 hD1
  generalize H1 = H at hP hS ⊢
  have hP : va_P (dC, dI) classes [(mo, .inr (12, [.ref mq1, .int 0, .int 0, .ref mq3, .ref mq5, .ref mq7, .ref mq9, .ref mq11, .int 0, .int 0, .int 0, .int 0, .int 0, .int 0, .int 0, .ref mq13, .int 0, .ref mq15, .int 0, .ref mq17, .ref mq19, .int (-1), .int 0, .int 0, .int 0, .int 0, .int 0, .ref mq21, .int 0, .ref mq23, .ref mq25, .ref mq27, .int 0, .int 0, .int 0, .ref mq29, .ref mq31, .ref mq33, .long 0, .ref mq35, .ref mq37, .ref mq39, .ref mq41])), (mq5, .inl (mk6, 7, .inl (fun _ => 0))), (mq11, .inl (mk12, 59, .inl (fun _ => 0)))] H := hP
  have hD : va_D A [(mo, .inr (12, [.ref mq1, .int 0, .int 0, .ref mq3, .ref mq5, .ref mq7, .ref mq9, .ref mq11, .int 0, .int 0, .int 0, .int 0, .int 0, .int 0, .int 0, .ref mq13, .int 0, .ref mq15, .int 0, .ref mq17, .ref mq19, .int (-1), .int 0, .int 0, .int 0, .int 0, .int 0, .ref mq21, .int 0, .ref mq23, .ref mq25, .ref mq27, .int 0, .int 0, .int 0, .ref mq29, .ref mq31, .ref mq33, .long 0, .ref mq35, .ref mq37, .ref mq39, .ref mq41])), (mq5, .inl (mk6, 7, .inl (fun _ => 0))), (mq11, .inl (mk12, 59, .inl (fun _ => 0)))] := hD
  obtain rfl : r_1 = (-3) := hw
  refine lv_aload_n hx hb dL_law_282 rfl (lv_at hl 1 rfl) ?_
  have hPc := hP.sub (ws' := [(mo, .inr (12, [.ref mq1, .int 0, .int 0, .ref mq3, .ref mq5, .ref mq7, .ref mq9, .ref mq11, .int 0, .int 0, .int 0, .int 0, .int 0, .int 0, .int 0, .ref mq13, .int 0, .ref mq15, .int 0, .ref mq17, .ref mq19, .int (-1), .int 0, .int 0, .int 0, .int 0, .int 0, .ref mq21, .int 0, .ref mq23, .ref mq25, .ref mq27, .int 0, .int 0, .int 0, .ref mq29, .ref mq31, .ref mq33, .long 0, .ref mq35, .ref mq37, .ref mq39, .ref mq41])), (mq5, .inl (mk6, 7, .inl (fun _ => 0))), (mq11, .inl (mk12, 59, .inl (fun _ => 0)))]) [0, 1, 2] rfl
  have hDc := hD.sub (ws' := [(mo, .inr (12, [.ref mq1, .int 0, .int 0, .ref mq3, .ref mq5, .ref mq7, .ref mq9, .ref mq11, .int 0, .int 0, .int 0, .int 0, .int 0, .int 0, .int 0, .ref mq13, .int 0, .ref mq15, .int 0, .ref mq17, .ref mq19, .int (-1), .int 0, .int 0, .int 0, .int 0, .int 0, .ref mq21, .int 0, .ref mq23, .ref mq25, .ref mq27, .int 0, .int 0, .int 0, .ref mq29, .ref mq31, .ref mq33, .long 0, .ref mq35, .ref mq37, .ref mq39, .ref mq41])), (mq5, .inl (mk6, 7, .inl (fun _ => 0))), (mq11, .inl (mk12, 59, .inl (fun _ => 0)))]) [0, 1, 2] (by decide) rfl
  have hKc := hK.sub (tys' := [(mk6, .int), (mk12, .int)]) [2, 3] rfl
  have hFc := va_free (wc := [(mo, .inr (12, [.ref mq1, .int 0, .int 0, .ref mq3, .ref mq5, .ref mq7, .ref mq9, .ref mq11, .int 0, .int 0, .int 0, .int 0, .int 0, .int 0, .int 0, .ref mq13, .int 0, .ref mq15, .int 0, .ref mq17, .ref mq19, .int (-1), .int 0, .int 0, .int 0, .int 0, .int 0, .ref mq21, .int 0, .ref mq23, .ref mq25, .ref mq27, .int 0, .int 0, .int 0, .ref mq29, .ref mq31, .ref mq33, .long 0, .ref mq35, .ref mq37, .ref mq39, .ref mq41])), (mq5, .inl (mk6, 7, .inl (fun _ => 0))), (mq11, .inl (mk12, 59, .inl (fun _ => 0)))]) hD hS hA [0, 1, 2] rfl
  refine va_calli (va_runV (As := []) (rest := [.int (-3)]) ⟨hx, hb, hml, hown, hq⟩ (c_M_dinner l dC dI _ mo mq1 mq3 mq5 mq7 mq9 mq11 mq13 mq15 mq17 mq19 mq21 mq23 mq25 mq27 mq29 mq31 mq33 mq35 mq37 mq39 mq41 mk6 (fun _ => 0) mk12 (fun _ => 0) ) (cwV 0 hq (gV qw_1456 qw_1457 qw_1458 qw_131 qw_1459) rfl rfl rfl (by decide +kernel) ⟨Nat.le_of_ble_eq_true rfl, Nat.le_of_ble_eq_true rfl⟩) ⟨fun a U g mk q => by obtain ⟨q0, q1, qP, qK, qD, qE⟩ := q; exact ⟨q0, q1, qP, va_K.moved (u := U) (U := U.calling g mk a) (Vm.Alike.refl U.vm) qK, qD, xE.same rfl qE⟩, va_recv hKc hPc (ci := 12) (q0 := 0) rfl rfl, fun U hU hW => ⟨rfl, by rw [hU], by rw [hU]; exact hPc, va_K.moved hW.alike hKc, hDc.weaken (fun _ _ _ _ => trivial), xE.warm hW hE⟩⟩ rfl rfl hl.1 rfl (lv_room (Nat.le_of_ble_eq_true rfl)) dL_law_283 ⟨Nat.le_of_ble_eq_true rfl, Nat.le_of_ble_eq_true rfl⟩) hS (fun q _ h => hFc q h) hFc (fun r_2 u t H1 locs ht hvm hw hB hz1 hk1 hS => ?_)
  have hP1 : va_P (dC, dI) classes [] H1 := vP_nil
  have hD1 : va_D (va_A [(mo, .inr (12, [.ref mq1, .int 0, .int 0, .ref mq3, .ref mq5, .ref mq7, .ref mq9, .ref mq11, .int 0, .int 0, .int 0, .int 0, .int 0, .int 0, .int 0, .ref mq13, .int 0, .ref mq15, .int 0, .ref mq17, .ref mq19, .int (-1), .int 0, .int 0, .int 0, .int 0, .int 0, .ref mq21, .int 0, .ref mq23, .ref mq25, .ref mq27, .int 0, .int 0, .int 0, .ref mq29, .ref mq31, .ref mq33, .long 0, .ref mq35, .ref mq37, .ref mq39, .ref mq41])), (mq5, .inl (mk6, 7, .inl (fun _ => 0))), (mq11, .inl (mk12, 59, .inl (fun _ => 0)))] H.size) [] := vD_nil
  obtain ⟨hP, hD⟩ := va_join (wr := []) (w1 := []) hP hD [0, 1, 2] [] rfl rfl (by decide) (by decide) hk1 hFc hP1 hD1
  generalize H1 = H at hP hS ⊢
  have hP : va_P (dC, dI) classes [] H := hP
  have hD : va_D A [] := hD
  obtain rfl : r_2 = (-3) := hw
  refine lv_icmp_eq (tgt := 1210) hx hb dL_law_286 (by decide) (fun _ => ?_) (fun c9 => absurd c9 (by decide))
  exact law_end C0 hAq hS (lv_sub hl [0, 1, 2, 3] rfl)
set_option maxHeartbeats 4000000 in
set_option maxRecDepth 100000 in
/-- rule, the first call -/
theorem law_3 {p : Program} {l : Launch} {e : Env} {s : State} {m : MethodId} {below : List Frame} {meth : Method} {c : Code} {A : Nat → Prop} {kA vA : Nat → Nat} {dC : Nat → ClassId} {dI : Nat → Nat → Nat} {b : Nat} {xs : Nat → Int32} {xo : Nat} {mo : Nat} {xq1 : Nat} {xq3 : Nat} {xq7 : Nat} {xq12 : Nat} {xq14 : Nat} {xq24 : Nat} {xq34 : Nat} {xq36 : Nat} {xq38 : Nat} {xq48 : Nat} {xq51 : Nat} {xq53 : Nat} {xq55 : Nat} {xq57 : Nat} {xq59 : Nat} {xk2 : ClassId} {xq9 : Nat} {xq10 : Nat} {xq11 : Nat} {xk13 : ClassId} {xq61 : Nat} {xq64 : Nat} {xq67 : Nat} {xq70 : Nat} {xq73 : Nat} {xq76 : Nat} {xq63 : Nat} {mq1 : Nat} {mq3 : Nat} {mq5 : Nat} {mq7 : Nat} {mq9 : Nat} {mq11 : Nat} {mq13 : Nat} {mq15 : Nat} {mq17 : Nat} {mq19 : Nat} {mq21 : Nat} {mq23 : Nat} {mq25 : Nat} {mq27 : Nat} {mq29 : Nat} {mq31 : Nat} {mq33 : Nat} {mq35 : Nat} {mq37 : Nat} {mq39 : Nat} {mq41 : Nat} {mk6 : ClassId} {mk10 : ClassId} (C0 : lw_At p s m meth c b 6 xs) (hA : ∀ q : Nat, s.heap.size ≤ q → A q) (hAq : ∀ q : Nat, A q → s.heap.size ≤ q) (hE : xE s) (hT : xT kA vA A s s.heap) (hK : va_K (dC, dI) classes [(xk2, .int), (xk13, .object RX9), (mk6, .int), (mk10, .int)] s) {H : Heap} {locs : List Loc} (hP : va_P (dC, dI) classes [(xo, .inr (11, [.ref xq1, .int 0, .ref xq3, .ref xq7, .ref xq12, .int 0, .int (-1), .ref xq14, .ref xq24, .ref xq34, .ref xq36, .ref xq38, .ref xq48, .ref xq51, .ref xq53, .ref xq55, .ref xq57, .ref xq59, .int 0])), (xq1, .inl (xk2, 400, .inl (fun _ => 0))), (xq7, .inr (10, [.ref xq9, .ref xq10, .int 0])), (xq9, .inr (7, [.ref xq11, .int 0, .int 0, .int 0])), (xq12, .inl (xk13, 6, .inr (.inr (.inr (.inr (va_up (va_up (va_up (va_up (va_up (va_up (fun _ => none) (Int32.toNatClampNeg 0) (some xq61)) (Int32.toNatClampNeg 1) (some xq64)) (Int32.toNatClampNeg 2) (some xq67)) (Int32.toNatClampNeg 3) (some xq70)) (Int32.toNatClampNeg 4) (some xq73)) (Int32.toNatClampNeg 5) (some xq76))))))), (xq61, .inr (9, [.ref xq63, .int 0, .int 0])), (mo, .inr (12, [.ref mq1, .int 0, .int 0, .ref mq3, .ref mq5, .ref mq7, .ref mq9, .ref mq11, .int 0, .int 0, .int 0, .int 0, .int 0, .int 0, .int 0, .ref mq13, .int 0, .ref mq15, .int 0, .ref mq17, .ref mq19, .int (-1), .int 0, .int 0, .int 0, .int 0, .int 0, .ref mq21, .int 0, .ref mq23, .ref mq25, .ref mq27, .int 0, .int 0, .int 0, .ref mq29, .ref mq31, .ref mq33, .long 0, .ref mq35, .ref mq37, .ref mq39, .ref mq41])), (mq5, .inl (mk6, 7, .inl (fun _ => 0))), (mq9, .inl (mk10, 6, .inl (fun _ => 0)))] H) (hD : va_D A [(xo, .inr (11, [.ref xq1, .int 0, .ref xq3, .ref xq7, .ref xq12, .int 0, .int (-1), .ref xq14, .ref xq24, .ref xq34, .ref xq36, .ref xq38, .ref xq48, .ref xq51, .ref xq53, .ref xq55, .ref xq57, .ref xq59, .int 0])), (xq1, .inl (xk2, 400, .inl (fun _ => 0))), (xq7, .inr (10, [.ref xq9, .ref xq10, .int 0])), (xq9, .inr (7, [.ref xq11, .int 0, .int 0, .int 0])), (xq12, .inl (xk13, 6, .inr (.inr (.inr (.inr (va_up (va_up (va_up (va_up (va_up (va_up (fun _ => none) (Int32.toNatClampNeg 0) (some xq61)) (Int32.toNatClampNeg 1) (some xq64)) (Int32.toNatClampNeg 2) (some xq67)) (Int32.toNatClampNeg 3) (some xq70)) (Int32.toNatClampNeg 4) (some xq73)) (Int32.toNatClampNeg 5) (some xq76))))))), (xq61, .inr (9, [.ref xq63, .int 0, .int 0])), (mo, .inr (12, [.ref mq1, .int 0, .int 0, .ref mq3, .ref mq5, .ref mq7, .ref mq9, .ref mq11, .int 0, .int 0, .int 0, .int 0, .int 0, .int 0, .int 0, .ref mq13, .int 0, .ref mq15, .int 0, .ref mq17, .ref mq19, .int (-1), .int 0, .int 0, .int 0, .int 0, .int 0, .ref mq21, .int 0, .ref mq23, .ref mq25, .ref mq27, .int 0, .int 0, .int 0, .ref mq29, .ref mq31, .ref mq33, .long 0, .ref mq35, .ref mq37, .ref mq39, .ref mq41])), (mq5, .inl (mk6, 7, .inl (fun _ => 0))), (mq9, .inl (mk10, 6, .inl (fun _ => 0)))]) (hS : va_S A s.heap H locs) {ls : Array Slot} (hl : lv_has ls 4 [(3, .int 0), (2, .ref mo), (1, .ref xo), (0, .ref b)]) : W p l e room_1 s m #[Value.ref b] below meth c H locs 152 8829 (lw_Z below #[Value.ref b] s) (F0 m 291 ls []) := by
  obtain ⟨hx, hb, hr, hml, hown, hts, hX, hbl, hlocks, hgv⟩ := id C0
  have hown : s.vm.findClass RL = some m.cls := hown
  have hq : ∀ w ∈ wsA, w.before _ s = true := fun w h => hts w (List.mem_filter.mp h).1
  have hbA : ¬ A b := fun h => Nat.not_le.mpr hbl (hAq b h)
  refine lv_aload_n hx hb dL_law_291 rfl (lv_at hl 2 rfl) ?_
  have hPc := hP.sub (ws' := [(xo, .inr (11, [.ref xq1, .int 0, .ref xq3, .ref xq7, .ref xq12, .int 0, .int (-1), .ref xq14, .ref xq24, .ref xq34, .ref xq36, .ref xq38, .ref xq48, .ref xq51, .ref xq53, .ref xq55, .ref xq57, .ref xq59, .int 0])), (xq12, .inl (xk13, 6, .inr (.inr (.inr (.inr (va_up (va_up (va_up (va_up (va_up (va_up (fun _ => none) (Int32.toNatClampNeg 0) (some xq61)) (Int32.toNatClampNeg 1) (some xq64)) (Int32.toNatClampNeg 2) (some xq67)) (Int32.toNatClampNeg 3) (some xq70)) (Int32.toNatClampNeg 4) (some xq73)) (Int32.toNatClampNeg 5) (some xq76))))))), (xq61, .inr (9, [.ref xq63, .int 0, .int 0])), (xq7, .inr (10, [.ref xq9, .ref xq10, .int 0])), (xq9, .inr (7, [.ref xq11, .int 0, .int 0, .int 0])), (xq1, .inl (xk2, 400, .inl (fun _ => 0)))]) [0, 4, 5, 2, 3, 1] rfl
  have hDc := hD.sub (ws' := [(xo, .inr (11, [.ref xq1, .int 0, .ref xq3, .ref xq7, .ref xq12, .int 0, .int (-1), .ref xq14, .ref xq24, .ref xq34, .ref xq36, .ref xq38, .ref xq48, .ref xq51, .ref xq53, .ref xq55, .ref xq57, .ref xq59, .int 0])), (xq12, .inl (xk13, 6, .inr (.inr (.inr (.inr (va_up (va_up (va_up (va_up (va_up (va_up (fun _ => none) (Int32.toNatClampNeg 0) (some xq61)) (Int32.toNatClampNeg 1) (some xq64)) (Int32.toNatClampNeg 2) (some xq67)) (Int32.toNatClampNeg 3) (some xq70)) (Int32.toNatClampNeg 4) (some xq73)) (Int32.toNatClampNeg 5) (some xq76))))))), (xq61, .inr (9, [.ref xq63, .int 0, .int 0])), (xq7, .inr (10, [.ref xq9, .ref xq10, .int 0])), (xq9, .inr (7, [.ref xq11, .int 0, .int 0, .int 0])), (xq1, .inl (xk2, 400, .inl (fun _ => 0)))]) [0, 4, 5, 2, 3, 1] (by decide) rfl
  have hKc := hK.sub (tys' := [(xk13, .object RX9), (xk2, .int)]) [1, 0] rfl
  have hFc := va_free (wc := [(xo, .inr (11, [.ref xq1, .int 0, .ref xq3, .ref xq7, .ref xq12, .int 0, .int (-1), .ref xq14, .ref xq24, .ref xq34, .ref xq36, .ref xq38, .ref xq48, .ref xq51, .ref xq53, .ref xq55, .ref xq57, .ref xq59, .int 0])), (xq12, .inl (xk13, 6, .inr (.inr (.inr (.inr (va_up (va_up (va_up (va_up (va_up (va_up (fun _ => none) (Int32.toNatClampNeg 0) (some xq61)) (Int32.toNatClampNeg 1) (some xq64)) (Int32.toNatClampNeg 2) (some xq67)) (Int32.toNatClampNeg 3) (some xq70)) (Int32.toNatClampNeg 4) (some xq73)) (Int32.toNatClampNeg 5) (some xq76))))))), (xq61, .inr (9, [.ref xq63, .int 0, .int 0])), (xq7, .inr (10, [.ref xq9, .ref xq10, .int 0])), (xq9, .inr (7, [.ref xq11, .int 0, .int 0, .int 0])), (xq1, .inl (xk2, 400, .inl (fun _ => 0)))]) hD hS hA [0, 4, 5, 2, 3, 1] rfl
  refine va_calli (va_runV (As := []) (rest := []) ⟨hx, hb, hml, hown, hq⟩ (c_SB_rule l dC dI _ kA vA xo xq1 xq3 xq7 xq12 xq14 xq24 xq34 xq36 xq38 xq48 xq51 xq53 xq55 xq57 xq59 xk13 (va_up (va_up (va_up (va_up (va_up (va_up (fun _ => none) (Int32.toNatClampNeg 0) (some xq61)) (Int32.toNatClampNeg 1) (some xq64)) (Int32.toNatClampNeg 2) (some xq67)) (Int32.toNatClampNeg 3) (some xq70)) (Int32.toNatClampNeg 4) (some xq73)) (Int32.toNatClampNeg 5) (some xq76)) xq61 xq63 xq9 xq11 xq10 xk2 (fun _ => 0) (rfl)) (cwV 0 hq (gV qw_663 qw_664 qw_665 qw_119 qw_666) rfl rfl rfl (by decide +kernel) ⟨Nat.le_of_ble_eq_true rfl, Nat.le_of_ble_eq_true rfl⟩) ⟨fun a U g mk q => by obtain ⟨q0, q1, qP, qK, qD, qE, qT⟩ := q; exact ⟨q0, q1, qP, va_K.moved (u := U) (U := U.calling g mk a) (Vm.Alike.refl U.vm) qK, qD, xE.same rfl qE, xT.same rfl qT⟩, va_recv hKc hPc (ci := 11) (q0 := 0) rfl rfl, fun U hU hW => ⟨rfl, by rw [hU], by rw [hU]; exact hPc, va_K.moved hW.alike hKc, hDc.weaken (fun _ _ _ _ => trivial), xE.warm hW hE, by rw [hU]; exact xT.call hW hT hS hFc⟩⟩ rfl rfl hl.1 rfl (lv_room (Nat.le_of_ble_eq_true rfl)) dL_law_292 ⟨Nat.le_of_ble_eq_true rfl, Nat.le_of_ble_eq_true rfl⟩) hS (fun q _ h => hFc q h) hFc (fun r_1 u t H1 locs ht hvm hw hB hz1 hk1 hS => ?_)
  have hP1 : va_P (dC, dI) classes [] H1 := vP_nil
  have hD1 : va_D (va_A [(xo, .inr (11, [.ref xq1, .int 0, .ref xq3, .ref xq7, .ref xq12, .int 0, .int (-1), .ref xq14, .ref xq24, .ref xq34, .ref xq36, .ref xq38, .ref xq48, .ref xq51, .ref xq53, .ref xq55, .ref xq57, .ref xq59, .int 0])), (xq12, .inl (xk13, 6, .inr (.inr (.inr (.inr (va_up (va_up (va_up (va_up (va_up (va_up (fun _ => none) (Int32.toNatClampNeg 0) (some xq61)) (Int32.toNatClampNeg 1) (some xq64)) (Int32.toNatClampNeg 2) (some xq67)) (Int32.toNatClampNeg 3) (some xq70)) (Int32.toNatClampNeg 4) (some xq73)) (Int32.toNatClampNeg 5) (some xq76))))))), (xq61, .inr (9, [.ref xq63, .int 0, .int 0])), (xq7, .inr (10, [.ref xq9, .ref xq10, .int 0])), (xq9, .inr (7, [.ref xq11, .int 0, .int 0, .int 0])), (xq1, .inl (xk2, 400, .inl (fun _ => 0)))] H.size) [] := vD_nil
  obtain ⟨hP, hD⟩ := va_join (wr := [(mo, .inr (12, [.ref mq1, .int 0, .int 0, .ref mq3, .ref mq5, .ref mq7, .ref mq9, .ref mq11, .int 0, .int 0, .int 0, .int 0, .int 0, .int 0, .int 0, .ref mq13, .int 0, .ref mq15, .int 0, .ref mq17, .ref mq19, .int (-1), .int 0, .int 0, .int 0, .int 0, .int 0, .ref mq21, .int 0, .ref mq23, .ref mq25, .ref mq27, .int 0, .int 0, .int 0, .ref mq29, .ref mq31, .ref mq33, .long 0, .ref mq35, .ref mq37, .ref mq39, .ref mq41])), (mq5, .inl (mk6, 7, .inl (fun _ => 0))), (mq9, .inl (mk10, 6, .inl (fun _ => 0)))]) (w1 := []) hP hD [0, 4, 5, 2, 3, 1] [6, 7, 8] rfl rfl (by decide) (by decide) hk1 hFc hP1 hD1
  generalize H1 = H at hP hS ⊢
  have hP : va_P (dC, dI) classes [(mo, .inr (12, [.ref mq1, .int 0, .int 0, .ref mq3, .ref mq5, .ref mq7, .ref mq9, .ref mq11, .int 0, .int 0, .int 0, .int 0, .int 0, .int 0, .int 0, .ref mq13, .int 0, .ref mq15, .int 0, .ref mq17, .ref mq19, .int (-1), .int 0, .int 0, .int 0, .int 0, .int 0, .ref mq21, .int 0, .ref mq23, .ref mq25, .ref mq27, .int 0, .int 0, .int 0, .ref mq29, .ref mq31, .ref mq33, .long 0, .ref mq35, .ref mq37, .ref mq39, .ref mq41])), (mq5, .inl (mk6, 7, .inl (fun _ => 0))), (mq9, .inl (mk10, 6, .inl (fun _ => 0)))] H := hP
  have hD : va_D A [(mo, .inr (12, [.ref mq1, .int 0, .int 0, .ref mq3, .ref mq5, .ref mq7, .ref mq9, .ref mq11, .int 0, .int 0, .int 0, .int 0, .int 0, .int 0, .int 0, .ref mq13, .int 0, .ref mq15, .int 0, .ref mq17, .ref mq19, .int (-1), .int 0, .int 0, .int 0, .int 0, .int 0, .ref mq21, .int 0, .ref mq23, .ref mq25, .ref mq27, .int 0, .int 0, .int 0, .ref mq29, .ref mq31, .ref mq33, .long 0, .ref mq35, .ref mq37, .ref mq39, .ref mq41])), (mq5, .inl (mk6, 7, .inl (fun _ => 0))), (mq9, .inl (mk10, 6, .inl (fun _ => 0)))] := hD
  obtain rfl : r_1 = (-3) := hw
  refine lv_aload_n hx hb dL_law_295 rfl (lv_at hl 1 rfl) ?_
  have hPc := hP.sub (ws' := [(mo, .inr (12, [.ref mq1, .int 0, .int 0, .ref mq3, .ref mq5, .ref mq7, .ref mq9, .ref mq11, .int 0, .int 0, .int 0, .int 0, .int 0, .int 0, .int 0, .ref mq13, .int 0, .ref mq15, .int 0, .ref mq17, .ref mq19, .int (-1), .int 0, .int 0, .int 0, .int 0, .int 0, .ref mq21, .int 0, .ref mq23, .ref mq25, .ref mq27, .int 0, .int 0, .int 0, .ref mq29, .ref mq31, .ref mq33, .long 0, .ref mq35, .ref mq37, .ref mq39, .ref mq41])), (mq5, .inl (mk6, 7, .inl (fun _ => 0))), (mq9, .inl (mk10, 6, .inl (fun _ => 0)))]) [0, 1, 2] rfl
  have hDc := hD.sub (ws' := [(mo, .inr (12, [.ref mq1, .int 0, .int 0, .ref mq3, .ref mq5, .ref mq7, .ref mq9, .ref mq11, .int 0, .int 0, .int 0, .int 0, .int 0, .int 0, .int 0, .ref mq13, .int 0, .ref mq15, .int 0, .ref mq17, .ref mq19, .int (-1), .int 0, .int 0, .int 0, .int 0, .int 0, .ref mq21, .int 0, .ref mq23, .ref mq25, .ref mq27, .int 0, .int 0, .int 0, .ref mq29, .ref mq31, .ref mq33, .long 0, .ref mq35, .ref mq37, .ref mq39, .ref mq41])), (mq5, .inl (mk6, 7, .inl (fun _ => 0))), (mq9, .inl (mk10, 6, .inl (fun _ => 0)))]) [0, 1, 2] (by decide) rfl
  have hKc := hK.sub (tys' := [(mk6, .int), (mk10, .int)]) [2, 3] rfl
  have hFc := va_free (wc := [(mo, .inr (12, [.ref mq1, .int 0, .int 0, .ref mq3, .ref mq5, .ref mq7, .ref mq9, .ref mq11, .int 0, .int 0, .int 0, .int 0, .int 0, .int 0, .int 0, .ref mq13, .int 0, .ref mq15, .int 0, .ref mq17, .ref mq19, .int (-1), .int 0, .int 0, .int 0, .int 0, .int 0, .ref mq21, .int 0, .ref mq23, .ref mq25, .ref mq27, .int 0, .int 0, .int 0, .ref mq29, .ref mq31, .ref mq33, .long 0, .ref mq35, .ref mq37, .ref mq39, .ref mq41])), (mq5, .inl (mk6, 7, .inl (fun _ => 0))), (mq9, .inl (mk10, 6, .inl (fun _ => 0)))]) hD hS hA [0, 1, 2] rfl
  refine va_calli (va_runV (As := []) (rest := [.int (-3)]) ⟨hx, hb, hml, hown, hq⟩ (c_M_rule l dC dI _ mo mq1 mq3 mq5 mq7 mq9 mq11 mq13 mq15 mq17 mq19 mq21 mq23 mq25 mq27 mq29 mq31 mq33 mq35 mq37 mq39 mq41 mk6 (fun _ => 0) mk10 (fun _ => 0) ) (cwV 0 hq (gV qw_1303 qw_1304 qw_1305 qw_131 qw_1306) rfl rfl rfl (by decide +kernel) ⟨Nat.le_of_ble_eq_true rfl, Nat.le_of_ble_eq_true rfl⟩) ⟨fun a U g mk q => by obtain ⟨q0, q1, qP, qK, qD, qE⟩ := q; exact ⟨q0, q1, qP, va_K.moved (u := U) (U := U.calling g mk a) (Vm.Alike.refl U.vm) qK, qD, xE.same rfl qE⟩, va_recv hKc hPc (ci := 12) (q0 := 0) rfl rfl, fun U hU hW => ⟨rfl, by rw [hU], by rw [hU]; exact hPc, va_K.moved hW.alike hKc, hDc.weaken (fun _ _ _ _ => trivial), xE.warm hW hE⟩⟩ rfl rfl hl.1 rfl (lv_room (Nat.le_of_ble_eq_true rfl)) dL_law_296 ⟨Nat.le_of_ble_eq_true rfl, Nat.le_of_ble_eq_true rfl⟩) hS (fun q _ h => hFc q h) hFc (fun r_2 u t H1 locs ht hvm hw hB hz1 hk1 hS => ?_)
  have hP1 : va_P (dC, dI) classes [] H1 := vP_nil
  have hD1 : va_D (va_A [(mo, .inr (12, [.ref mq1, .int 0, .int 0, .ref mq3, .ref mq5, .ref mq7, .ref mq9, .ref mq11, .int 0, .int 0, .int 0, .int 0, .int 0, .int 0, .int 0, .ref mq13, .int 0, .ref mq15, .int 0, .ref mq17, .ref mq19, .int (-1), .int 0, .int 0, .int 0, .int 0, .int 0, .ref mq21, .int 0, .ref mq23, .ref mq25, .ref mq27, .int 0, .int 0, .int 0, .ref mq29, .ref mq31, .ref mq33, .long 0, .ref mq35, .ref mq37, .ref mq39, .ref mq41])), (mq5, .inl (mk6, 7, .inl (fun _ => 0))), (mq9, .inl (mk10, 6, .inl (fun _ => 0)))] H.size) [] := vD_nil
  obtain ⟨hP, hD⟩ := va_join (wr := []) (w1 := []) hP hD [0, 1, 2] [] rfl rfl (by decide) (by decide) hk1 hFc hP1 hD1
  generalize H1 = H at hP hS ⊢
  have hP : va_P (dC, dI) classes [] H := hP
  have hD : va_D A [] := hD
  obtain rfl : r_2 = (-3) := hw
  refine lv_icmp_eq (tgt := 1210) hx hb dL_law_299 (by decide) (fun _ => ?_) (fun c9 => absurd c9 (by decide))
  exact law_end C0 hAq hS (lv_sub hl [0, 1, 2, 3] rfl)
set_option maxHeartbeats 4000000 in
set_option maxRecDepth 100000 in
/-- force, the first call -/
theorem law_4 {p : Program} {l : Launch} {e : Env} {s : State} {m : MethodId} {below : List Frame} {meth : Method} {c : Code} {A : Nat → Prop} {kA vA : Nat → Nat} {dC : Nat → ClassId} {dI : Nat → Nat → Nat} {b : Nat} {xs : Nat → Int32} {xo : Nat} {mo : Nat} {xq1 : Nat} {xq3 : Nat} {xq7 : Nat} {xq12 : Nat} {xq14 : Nat} {xq24 : Nat} {xq34 : Nat} {xq36 : Nat} {xq38 : Nat} {xq48 : Nat} {xq51 : Nat} {xq53 : Nat} {xq55 : Nat} {xq57 : Nat} {xq59 : Nat} {mq1 : Nat} {mq3 : Nat} {mq5 : Nat} {mq7 : Nat} {mq9 : Nat} {mq11 : Nat} {mq13 : Nat} {mq15 : Nat} {mq17 : Nat} {mq19 : Nat} {mq21 : Nat} {mq23 : Nat} {mq25 : Nat} {mq27 : Nat} {mq29 : Nat} {mq31 : Nat} {mq33 : Nat} {mq35 : Nat} {mq37 : Nat} {mq39 : Nat} {mq41 : Nat} (C0 : lw_At p s m meth c b 6 xs) (hA : ∀ q : Nat, s.heap.size ≤ q → A q) (hAq : ∀ q : Nat, A q → s.heap.size ≤ q) (hE : xE s) (hT : xT kA vA A s s.heap) (hK : va_K (dC, dI) classes [] s) {H : Heap} {locs : List Loc} (hP : va_P (dC, dI) classes [(xo, .inr (11, [.ref xq1, .int 0, .ref xq3, .ref xq7, .ref xq12, .int 0, .int (-1), .ref xq14, .ref xq24, .ref xq34, .ref xq36, .ref xq38, .ref xq48, .ref xq51, .ref xq53, .ref xq55, .ref xq57, .ref xq59, .int 0])), (mo, .inr (12, [.ref mq1, .int 0, .int 0, .ref mq3, .ref mq5, .ref mq7, .ref mq9, .ref mq11, .int 0, .int 0, .int 0, .int 0, .int 0, .int 0, .int 0, .ref mq13, .int 0, .ref mq15, .int 0, .ref mq17, .ref mq19, .int (-1), .int 0, .int 0, .int 0, .int 0, .int 0, .ref mq21, .int 0, .ref mq23, .ref mq25, .ref mq27, .int 0, .int 0, .int 0, .ref mq29, .ref mq31, .ref mq33, .long 0, .ref mq35, .ref mq37, .ref mq39, .ref mq41]))] H) (hD : va_D A [(xo, .inr (11, [.ref xq1, .int 0, .ref xq3, .ref xq7, .ref xq12, .int 0, .int (-1), .ref xq14, .ref xq24, .ref xq34, .ref xq36, .ref xq38, .ref xq48, .ref xq51, .ref xq53, .ref xq55, .ref xq57, .ref xq59, .int 0])), (mo, .inr (12, [.ref mq1, .int 0, .int 0, .ref mq3, .ref mq5, .ref mq7, .ref mq9, .ref mq11, .int 0, .int 0, .int 0, .int 0, .int 0, .int 0, .int 0, .ref mq13, .int 0, .ref mq15, .int 0, .ref mq17, .ref mq19, .int (-1), .int 0, .int 0, .int 0, .int 0, .int 0, .ref mq21, .int 0, .ref mq23, .ref mq25, .ref mq27, .int 0, .int 0, .int 0, .ref mq29, .ref mq31, .ref mq33, .long 0, .ref mq35, .ref mq37, .ref mq39, .ref mq41]))]) (hS : va_S A s.heap H locs) {ls : Array Slot} (hl : lv_has ls 4 [(3, .int 0), (2, .ref mo), (1, .ref xo), (0, .ref b)]) : W p l e room_1 s m #[Value.ref b] below meth c H locs 152 8829 (lw_Z below #[Value.ref b] s) (F0 m 304 ls []) := by
  obtain ⟨hx, hb, hr, hml, hown, hts, hX, hbl, hlocks, hgv⟩ := id C0
  have hown : s.vm.findClass RL = some m.cls := hown
  have hq : ∀ w ∈ wsA, w.before _ s = true := fun w h => hts w (List.mem_filter.mp h).1
  have hbA : ¬ A b := fun h => Nat.not_le.mpr hbl (hAq b h)
  obtain ⟨z1, ez1⟩ : ∃ z : Int32, z = xs 1 := ⟨_, rfl⟩
  refine lv_aload_n hx hb dL_law_304 rfl (lv_at hl 2 rfl) ?_
  refine lv_aload_n hx hb dL_law_305 rfl (lv_at hl 3 rfl) ?_
  refine lv_iload_n hx hb dL_law_306 rfl (lv_at hl 0 rfl) ?_
  refine lv_iconst (v := 1) hx hb dL_law_307 (by decide) ?_
  refine lv_iadd hx hb dL_law_308 ?_
  refine lv_topi (fun y_1 ey_1 => ?_)
  obtain rfl : y_1 = 1 := ey_1.trans (by decide)
  refine va_sld hx hb hX hbl hbA hS (inr_ok rfl) dL_law_309 ?_
  refine W.eq (g2 := F0 m 310 ls [.int z1, .ref xo]) (by rw [ez1]; rfl) ?_
  have hPc := hP.sub (ws' := [(xo, .inr (11, [.ref xq1, .int 0, .ref xq3, .ref xq7, .ref xq12, .int 0, .int (-1), .ref xq14, .ref xq24, .ref xq34, .ref xq36, .ref xq38, .ref xq48, .ref xq51, .ref xq53, .ref xq55, .ref xq57, .ref xq59, .int 0]))]) [0] rfl
  have hDc := hD.sub (ws' := [(xo, .inr (11, [.ref xq1, .int 0, .ref xq3, .ref xq7, .ref xq12, .int 0, .int (-1), .ref xq14, .ref xq24, .ref xq34, .ref xq36, .ref xq38, .ref xq48, .ref xq51, .ref xq53, .ref xq55, .ref xq57, .ref xq59, .int 0]))]) [0] (by decide) rfl
  have hKc := hK.sub (tys' := []) [] rfl
  have hFc := va_free (wc := [(xo, .inr (11, [.ref xq1, .int 0, .ref xq3, .ref xq7, .ref xq12, .int 0, .int (-1), .ref xq14, .ref xq24, .ref xq34, .ref xq36, .ref xq38, .ref xq48, .ref xq51, .ref xq53, .ref xq55, .ref xq57, .ref xq59, .int 0]))]) hD hS hA [0] rfl
  refine va_calli (va_runV (As := [.int z1]) (rest := []) ⟨hx, hb, hml, hown, hq⟩ (c_SB_force l dC dI _ xo xq1 xq3 xq7 xq12 xq14 xq24 xq34 xq36 xq38 xq48 xq51 xq53 xq55 xq57 xq59 z1 ) (cwV 1 hq (gV qw_731 qw_732 qw_733 qw_119 qw_734) rfl rfl rfl (by decide +kernel) ⟨Nat.le_of_ble_eq_true rfl, Nat.le_of_ble_eq_true rfl⟩) ⟨fun a U g mk q => by obtain ⟨q0, q1, qP, qK, qD, qE⟩ := q; exact ⟨q0, q1, qP, va_K.moved (u := U) (U := U.calling g mk a) (Vm.Alike.refl U.vm) qK, qD, xE.same rfl qE⟩, va_recv hKc hPc (ci := 11) (q0 := 0) rfl rfl, fun U hU hW => ⟨rfl, by rw [hU], by rw [hU]; exact hPc, va_K.moved hW.alike hKc, hDc.weaken (fun _ _ _ _ => trivial), xE.warm hW hE⟩⟩ rfl rfl hl.1 rfl (lv_room (Nat.le_of_ble_eq_true rfl)) dL_law_310 ⟨Nat.le_of_ble_eq_true rfl, Nat.le_of_ble_eq_true rfl⟩) hS (fun q _ h => hFc q h) hFc (fun r_2 u t H1 locs ht hvm hw hB hz1 hk1 hS => ?_)
  have hP1 : va_P (dC, dI) classes [] H1 := vP_nil
  have hD1 : va_D (va_A [(xo, .inr (11, [.ref xq1, .int 0, .ref xq3, .ref xq7, .ref xq12, .int 0, .int (-1), .ref xq14, .ref xq24, .ref xq34, .ref xq36, .ref xq38, .ref xq48, .ref xq51, .ref xq53, .ref xq55, .ref xq57, .ref xq59, .int 0]))] H.size) [] := vD_nil
  obtain ⟨hP, hD⟩ := va_join (wr := [(mo, .inr (12, [.ref mq1, .int 0, .int 0, .ref mq3, .ref mq5, .ref mq7, .ref mq9, .ref mq11, .int 0, .int 0, .int 0, .int 0, .int 0, .int 0, .int 0, .ref mq13, .int 0, .ref mq15, .int 0, .ref mq17, .ref mq19, .int (-1), .int 0, .int 0, .int 0, .int 0, .int 0, .ref mq21, .int 0, .ref mq23, .ref mq25, .ref mq27, .int 0, .int 0, .int 0, .ref mq29, .ref mq31, .ref mq33, .long 0, .ref mq35, .ref mq37, .ref mq39, .ref mq41]))]) (w1 := []) hP hD [0] [1] rfl rfl (by decide) (by decide) hk1 hFc hP1 hD1
  generalize H1 = H at hP hS ⊢
  have hP : va_P (dC, dI) classes [(mo, .inr (12, [.ref mq1, .int 0, .int 0, .ref mq3, .ref mq5, .ref mq7, .ref mq9, .ref mq11, .int 0, .int 0, .int 0, .int 0, .int 0, .int 0, .int 0, .ref mq13, .int 0, .ref mq15, .int 0, .ref mq17, .ref mq19, .int (-1), .int 0, .int 0, .int 0, .int 0, .int 0, .ref mq21, .int 0, .ref mq23, .ref mq25, .ref mq27, .int 0, .int 0, .int 0, .ref mq29, .ref mq31, .ref mq33, .long 0, .ref mq35, .ref mq37, .ref mq39, .ref mq41]))] H := hP
  have hD : va_D A [(mo, .inr (12, [.ref mq1, .int 0, .int 0, .ref mq3, .ref mq5, .ref mq7, .ref mq9, .ref mq11, .int 0, .int 0, .int 0, .int 0, .int 0, .int 0, .int 0, .ref mq13, .int 0, .ref mq15, .int 0, .ref mq17, .ref mq19, .int (-1), .int 0, .int 0, .int 0, .int 0, .int 0, .ref mq21, .int 0, .ref mq23, .ref mq25, .ref mq27, .int 0, .int 0, .int 0, .ref mq29, .ref mq31, .ref mq33, .long 0, .ref mq35, .ref mq37, .ref mq39, .ref mq41]))] := hD
  have hr_2 := hw
  refine lv_aload_n hx hb dL_law_313 rfl (lv_at hl 1 rfl) ?_
  refine lv_aload_n hx hb dL_law_314 rfl (lv_at hl 3 rfl) ?_
  refine lv_iload_n hx hb dL_law_315 rfl (lv_at hl 0 rfl) ?_
  refine lv_iconst (v := 1) hx hb dL_law_316 (by decide) ?_
  refine lv_iadd hx hb dL_law_317 ?_
  refine lv_topi (fun y_3 ey_3 => ?_)
  obtain rfl : y_3 = 1 := ey_3.trans (by decide)
  refine va_sld hx hb hX hbl hbA hS (inr_ok rfl) dL_law_318 ?_
  refine W.eq (g2 := F0 m 319 ls [.int z1, .ref mo, .int r_2]) (by rw [ez1]; rfl) ?_
  have hPc := hP.sub (ws' := [(mo, .inr (12, [.ref mq1, .int 0, .int 0, .ref mq3, .ref mq5, .ref mq7, .ref mq9, .ref mq11, .int 0, .int 0, .int 0, .int 0, .int 0, .int 0, .int 0, .ref mq13, .int 0, .ref mq15, .int 0, .ref mq17, .ref mq19, .int (-1), .int 0, .int 0, .int 0, .int 0, .int 0, .ref mq21, .int 0, .ref mq23, .ref mq25, .ref mq27, .int 0, .int 0, .int 0, .ref mq29, .ref mq31, .ref mq33, .long 0, .ref mq35, .ref mq37, .ref mq39, .ref mq41]))]) [0] rfl
  have hDc := hD.sub (ws' := [(mo, .inr (12, [.ref mq1, .int 0, .int 0, .ref mq3, .ref mq5, .ref mq7, .ref mq9, .ref mq11, .int 0, .int 0, .int 0, .int 0, .int 0, .int 0, .int 0, .ref mq13, .int 0, .ref mq15, .int 0, .ref mq17, .ref mq19, .int (-1), .int 0, .int 0, .int 0, .int 0, .int 0, .ref mq21, .int 0, .ref mq23, .ref mq25, .ref mq27, .int 0, .int 0, .int 0, .ref mq29, .ref mq31, .ref mq33, .long 0, .ref mq35, .ref mq37, .ref mq39, .ref mq41]))]) [0] (by decide) rfl
  have hKc := hK.sub (tys' := []) [] rfl
  have hFc := va_free (wc := [(mo, .inr (12, [.ref mq1, .int 0, .int 0, .ref mq3, .ref mq5, .ref mq7, .ref mq9, .ref mq11, .int 0, .int 0, .int 0, .int 0, .int 0, .int 0, .int 0, .ref mq13, .int 0, .ref mq15, .int 0, .ref mq17, .ref mq19, .int (-1), .int 0, .int 0, .int 0, .int 0, .int 0, .ref mq21, .int 0, .ref mq23, .ref mq25, .ref mq27, .int 0, .int 0, .int 0, .ref mq29, .ref mq31, .ref mq33, .long 0, .ref mq35, .ref mq37, .ref mq39, .ref mq41]))]) hD hS hA [0] rfl
  refine va_calli (va_runV (As := [.int z1]) (rest := [.int r_2]) ⟨hx, hb, hml, hown, hq⟩ (c_M_force l dC dI _ mo mq1 mq3 mq5 mq7 mq9 mq11 mq13 mq15 mq17 mq19 mq21 mq23 mq25 mq27 mq29 mq31 mq33 mq35 mq37 mq39 mq41 z1 ) (cwV 1 hq (gV qw_1464 qw_1465 qw_1466 qw_131 qw_1467) rfl rfl rfl (by decide +kernel) ⟨Nat.le_of_ble_eq_true rfl, Nat.le_of_ble_eq_true rfl⟩) ⟨fun a U g mk q => by obtain ⟨q0, q1, qP, qK, qD, qE⟩ := q; exact ⟨q0, q1, qP, va_K.moved (u := U) (U := U.calling g mk a) (Vm.Alike.refl U.vm) qK, qD, xE.same rfl qE⟩, va_recv hKc hPc (ci := 12) (q0 := 0) rfl rfl, fun U hU hW => ⟨rfl, by rw [hU], by rw [hU]; exact hPc, va_K.moved hW.alike hKc, hDc.weaken (fun _ _ _ _ => trivial), xE.warm hW hE⟩⟩ rfl rfl hl.1 rfl (lv_room (Nat.le_of_ble_eq_true rfl)) dL_law_319 ⟨Nat.le_of_ble_eq_true rfl, Nat.le_of_ble_eq_true rfl⟩) hS (fun q _ h => hFc q h) hFc (fun r_4 u t H1 locs ht hvm hw hB hz1 hk1 hS => ?_)
  have hP1 : va_P (dC, dI) classes [] H1 := vP_nil
  have hD1 : va_D (va_A [(mo, .inr (12, [.ref mq1, .int 0, .int 0, .ref mq3, .ref mq5, .ref mq7, .ref mq9, .ref mq11, .int 0, .int 0, .int 0, .int 0, .int 0, .int 0, .int 0, .ref mq13, .int 0, .ref mq15, .int 0, .ref mq17, .ref mq19, .int (-1), .int 0, .int 0, .int 0, .int 0, .int 0, .ref mq21, .int 0, .ref mq23, .ref mq25, .ref mq27, .int 0, .int 0, .int 0, .ref mq29, .ref mq31, .ref mq33, .long 0, .ref mq35, .ref mq37, .ref mq39, .ref mq41]))] H.size) [] := vD_nil
  obtain ⟨hP, hD⟩ := va_join (wr := []) (w1 := []) hP hD [0] [] rfl rfl (by decide) (by decide) hk1 hFc hP1 hD1
  generalize H1 = H at hP hS ⊢
  have hP : va_P (dC, dI) classes [] H := hP
  have hD : va_D A [] := hD
  have hr_4 := hw
  refine lv_icmp_eq (tgt := 1210) hx hb dL_law_322 (by decide) (fun _ => ?_) (fun c9 => absurd (eqP hr_2 hr_4) c9)
  exact law_end C0 hAq hS (lv_sub hl [0, 1, 2, 3] rfl)
set_option maxHeartbeats 4000000 in
set_option maxRecDepth 100000 in
/-- dish, the first call -/
theorem law_5 {p : Program} {l : Launch} {e : Env} {s : State} {m : MethodId} {below : List Frame} {meth : Method} {c : Code} {A : Nat → Prop} {kA vA : Nat → Nat} {dC : Nat → ClassId} {dI : Nat → Nat → Nat} {b : Nat} {xs : Nat → Int32} {xo : Nat} {mo : Nat} {xq1 : Nat} {xq3 : Nat} {xq7 : Nat} {xq12 : Nat} {xq14 : Nat} {xq24 : Nat} {xq34 : Nat} {xq36 : Nat} {xq38 : Nat} {xq48 : Nat} {xq51 : Nat} {xq53 : Nat} {xq55 : Nat} {xq57 : Nat} {xq59 : Nat} {xq16 : Nat} {xq17 : Nat} {xq18 : Nat} {xq19 : Nat} {mq1 : Nat} {mq3 : Nat} {mq5 : Nat} {mq7 : Nat} {mq9 : Nat} {mq11 : Nat} {mq13 : Nat} {mq15 : Nat} {mq17 : Nat} {mq19 : Nat} {mq21 : Nat} {mq23 : Nat} {mq25 : Nat} {mq27 : Nat} {mq29 : Nat} {mq31 : Nat} {mq33 : Nat} {mq35 : Nat} {mq37 : Nat} {mq39 : Nat} {mq41 : Nat} {mk20 : ClassId} (C0 : lw_At p s m meth c b 6 xs) (hA : ∀ q : Nat, s.heap.size ≤ q → A q) (hAq : ∀ q : Nat, A q → s.heap.size ≤ q) (hE : xE s) (hT : xT kA vA A s s.heap) (hK : va_K (dC, dI) classes [(mk20, .int)] s) {H : Heap} {locs : List Loc} (hP : va_P (dC, dI) classes [(xo, .inr (11, [.ref xq1, .int 0, .ref xq3, .ref xq7, .ref xq12, .int 0, .int (-1), .ref xq14, .ref xq24, .ref xq34, .ref xq36, .ref xq38, .ref xq48, .ref xq51, .ref xq53, .ref xq55, .ref xq57, .ref xq59, .int 0])), (xq14, .inr (1, [.int 0, .int 0, .int 0, .ref xq16, .ref xq17, .ref xq18, .ref xq19])), (mo, .inr (12, [.ref mq1, .int 0, .int 0, .ref mq3, .ref mq5, .ref mq7, .ref mq9, .ref mq11, .int 0, .int 0, .int 0, .int 0, .int 0, .int 0, .int 0, .ref mq13, .int 0, .ref mq15, .int 0, .ref mq17, .ref mq19, .int (-1), .int 0, .int 0, .int 0, .int 0, .int 0, .ref mq21, .int 0, .ref mq23, .ref mq25, .ref mq27, .int 0, .int 0, .int 0, .ref mq29, .ref mq31, .ref mq33, .long 0, .ref mq35, .ref mq37, .ref mq39, .ref mq41])), (mq19, .inl (mk20, 100, .inl (fun _ => 0)))] H) (hD : va_D A [(xo, .inr (11, [.ref xq1, .int 0, .ref xq3, .ref xq7, .ref xq12, .int 0, .int (-1), .ref xq14, .ref xq24, .ref xq34, .ref xq36, .ref xq38, .ref xq48, .ref xq51, .ref xq53, .ref xq55, .ref xq57, .ref xq59, .int 0])), (xq14, .inr (1, [.int 0, .int 0, .int 0, .ref xq16, .ref xq17, .ref xq18, .ref xq19])), (mo, .inr (12, [.ref mq1, .int 0, .int 0, .ref mq3, .ref mq5, .ref mq7, .ref mq9, .ref mq11, .int 0, .int 0, .int 0, .int 0, .int 0, .int 0, .int 0, .ref mq13, .int 0, .ref mq15, .int 0, .ref mq17, .ref mq19, .int (-1), .int 0, .int 0, .int 0, .int 0, .int 0, .ref mq21, .int 0, .ref mq23, .ref mq25, .ref mq27, .int 0, .int 0, .int 0, .ref mq29, .ref mq31, .ref mq33, .long 0, .ref mq35, .ref mq37, .ref mq39, .ref mq41])), (mq19, .inl (mk20, 100, .inl (fun _ => 0)))]) (hS : va_S A s.heap H locs) {ls : Array Slot} (hl : lv_has ls 4 [(3, .int 0), (2, .ref mo), (1, .ref xo), (0, .ref b)]) : W p l e room_1 s m #[Value.ref b] below meth c H locs 152 8829 (lw_Z below #[Value.ref b] s) (F0 m 327 ls []) := by
  obtain ⟨hx, hb, hr, hml, hown, hts, hX, hbl, hlocks, hgv⟩ := id C0
  have hown : s.vm.findClass RL = some m.cls := hown
  have hq : ∀ w ∈ wsA, w.before _ s = true := fun w h => hts w (List.mem_filter.mp h).1
  have hbA : ¬ A b := fun h => Nat.not_le.mpr hbl (hAq b h)
  obtain ⟨z1, ez1⟩ : ∃ z : Int32, z = xs 1 := ⟨_, rfl⟩
  obtain ⟨z2, ez2⟩ : ∃ z : Int32, z = xs 2 := ⟨_, rfl⟩
  refine lv_aload_n hx hb dL_law_327 rfl (lv_at hl 2 rfl) ?_
  refine lv_aload_n hx hb dL_law_328 rfl (lv_at hl 3 rfl) ?_
  refine lv_iload_n hx hb dL_law_329 rfl (lv_at hl 0 rfl) ?_
  refine lv_iconst (v := 1) hx hb dL_law_330 (by decide) ?_
  refine lv_iadd hx hb dL_law_331 ?_
  refine lv_topi (fun y_1 ey_1 => ?_)
  obtain rfl : y_1 = 1 := ey_1.trans (by decide)
  refine va_sld hx hb hX hbl hbA hS (inr_ok rfl) dL_law_332 ?_
  refine W.eq (g2 := F0 m 333 ls [.int z1, .ref xo]) (by rw [ez1]; rfl) ?_
  refine lv_aload_n hx hb dL_law_333 rfl (lv_at hl 3 rfl) ?_
  refine lv_iload_n hx hb dL_law_334 rfl (lv_at hl 0 rfl) ?_
  refine lv_iconst (v := 2) hx hb dL_law_335 (by decide) ?_
  refine lv_iadd hx hb dL_law_336 ?_
  refine lv_topi (fun y_2 ey_2 => ?_)
  obtain rfl : y_2 = 2 := ey_2.trans (by decide)
  refine va_sld hx hb hX hbl hbA hS (inr_ok rfl) dL_law_337 ?_
  refine W.eq (g2 := F0 m 338 ls [.int z2, .int z1, .ref xo]) (by rw [ez2]; rfl) ?_
  have hPc := hP.sub (ws' := [(xo, .inr (11, [.ref xq1, .int 0, .ref xq3, .ref xq7, .ref xq12, .int 0, .int (-1), .ref xq14, .ref xq24, .ref xq34, .ref xq36, .ref xq38, .ref xq48, .ref xq51, .ref xq53, .ref xq55, .ref xq57, .ref xq59, .int 0])), (xq14, .inr (1, [.int 0, .int 0, .int 0, .ref xq16, .ref xq17, .ref xq18, .ref xq19]))]) [0, 1] rfl
  have hDc := hD.sub (ws' := [(xo, .inr (11, [.ref xq1, .int 0, .ref xq3, .ref xq7, .ref xq12, .int 0, .int (-1), .ref xq14, .ref xq24, .ref xq34, .ref xq36, .ref xq38, .ref xq48, .ref xq51, .ref xq53, .ref xq55, .ref xq57, .ref xq59, .int 0])), (xq14, .inr (1, [.int 0, .int 0, .int 0, .ref xq16, .ref xq17, .ref xq18, .ref xq19]))]) [0, 1] (by decide) rfl
  have hKc := hK.sub (tys' := []) [] rfl
  have hFc := va_free (wc := [(xo, .inr (11, [.ref xq1, .int 0, .ref xq3, .ref xq7, .ref xq12, .int 0, .int (-1), .ref xq14, .ref xq24, .ref xq34, .ref xq36, .ref xq38, .ref xq48, .ref xq51, .ref xq53, .ref xq55, .ref xq57, .ref xq59, .int 0])), (xq14, .inr (1, [.int 0, .int 0, .int 0, .ref xq16, .ref xq17, .ref xq18, .ref xq19]))]) hD hS hA [0, 1] rfl
  refine va_calli (va_runV (As := [.int z1, .int z2]) (rest := []) ⟨hx, hb, hml, hown, hq⟩ (c_SB_dish l dC dI _ xo xq1 xq3 xq7 xq12 xq14 xq24 xq34 xq36 xq38 xq48 xq51 xq53 xq55 xq57 xq59 xq16 xq17 xq18 xq19 z1 z2 ) (cwV 2 hq (gV qw_735 qw_736 qw_737 qw_119 qw_738) rfl rfl rfl (by decide +kernel) ⟨Nat.le_of_ble_eq_true rfl, Nat.le_of_ble_eq_true rfl⟩) ⟨fun a U g mk q => by obtain ⟨q0, q1, qP, qK, qD, qE⟩ := q; exact ⟨q0, q1, qP, va_K.moved (u := U) (U := U.calling g mk a) (Vm.Alike.refl U.vm) qK, qD, xE.same rfl qE⟩, va_recv hKc hPc (ci := 11) (q0 := 0) rfl rfl, fun U hU hW => ⟨rfl, by rw [hU], by rw [hU]; exact hPc, va_K.moved hW.alike hKc, hDc.weaken (fun _ _ _ _ => trivial), xE.warm hW hE⟩⟩ rfl rfl hl.1 rfl (lv_room (Nat.le_of_ble_eq_true rfl)) dL_law_338 ⟨Nat.le_of_ble_eq_true rfl, Nat.le_of_ble_eq_true rfl⟩) hS (fun q _ h => hFc q h) hFc (fun r_3 u t H1 locs ht hvm hw hB hz1 hk1 hS => ?_)
  have hP1 : va_P (dC, dI) classes [] H1 := vP_nil
  have hD1 : va_D (va_A [(xo, .inr (11, [.ref xq1, .int 0, .ref xq3, .ref xq7, .ref xq12, .int 0, .int (-1), .ref xq14, .ref xq24, .ref xq34, .ref xq36, .ref xq38, .ref xq48, .ref xq51, .ref xq53, .ref xq55, .ref xq57, .ref xq59, .int 0])), (xq14, .inr (1, [.int 0, .int 0, .int 0, .ref xq16, .ref xq17, .ref xq18, .ref xq19]))] H.size) [] := vD_nil
  obtain ⟨hP, hD⟩ := va_join (wr := [(mo, .inr (12, [.ref mq1, .int 0, .int 0, .ref mq3, .ref mq5, .ref mq7, .ref mq9, .ref mq11, .int 0, .int 0, .int 0, .int 0, .int 0, .int 0, .int 0, .ref mq13, .int 0, .ref mq15, .int 0, .ref mq17, .ref mq19, .int (-1), .int 0, .int 0, .int 0, .int 0, .int 0, .ref mq21, .int 0, .ref mq23, .ref mq25, .ref mq27, .int 0, .int 0, .int 0, .ref mq29, .ref mq31, .ref mq33, .long 0, .ref mq35, .ref mq37, .ref mq39, .ref mq41])), (mq19, .inl (mk20, 100, .inl (fun _ => 0)))]) (w1 := []) hP hD [0, 1] [2, 3] rfl rfl (by decide) (by decide) hk1 hFc hP1 hD1
  generalize H1 = H at hP hS ⊢
  have hP : va_P (dC, dI) classes [(mo, .inr (12, [.ref mq1, .int 0, .int 0, .ref mq3, .ref mq5, .ref mq7, .ref mq9, .ref mq11, .int 0, .int 0, .int 0, .int 0, .int 0, .int 0, .int 0, .ref mq13, .int 0, .ref mq15, .int 0, .ref mq17, .ref mq19, .int (-1), .int 0, .int 0, .int 0, .int 0, .int 0, .ref mq21, .int 0, .ref mq23, .ref mq25, .ref mq27, .int 0, .int 0, .int 0, .ref mq29, .ref mq31, .ref mq33, .long 0, .ref mq35, .ref mq37, .ref mq39, .ref mq41])), (mq19, .inl (mk20, 100, .inl (fun _ => 0)))] H := hP
  have hD : va_D A [(mo, .inr (12, [.ref mq1, .int 0, .int 0, .ref mq3, .ref mq5, .ref mq7, .ref mq9, .ref mq11, .int 0, .int 0, .int 0, .int 0, .int 0, .int 0, .int 0, .ref mq13, .int 0, .ref mq15, .int 0, .ref mq17, .ref mq19, .int (-1), .int 0, .int 0, .int 0, .int 0, .int 0, .ref mq21, .int 0, .ref mq23, .ref mq25, .ref mq27, .int 0, .int 0, .int 0, .ref mq29, .ref mq31, .ref mq33, .long 0, .ref mq35, .ref mq37, .ref mq39, .ref mq41])), (mq19, .inl (mk20, 100, .inl (fun _ => 0)))] := hD
  obtain rfl : r_3 = (-3) := hw
  refine lv_aload_n hx hb dL_law_341 rfl (lv_at hl 1 rfl) ?_
  refine lv_aload_n hx hb dL_law_342 rfl (lv_at hl 3 rfl) ?_
  refine lv_iload_n hx hb dL_law_343 rfl (lv_at hl 0 rfl) ?_
  refine lv_iconst (v := 1) hx hb dL_law_344 (by decide) ?_
  refine lv_iadd hx hb dL_law_345 ?_
  refine lv_topi (fun y_4 ey_4 => ?_)
  obtain rfl : y_4 = 1 := ey_4.trans (by decide)
  refine va_sld hx hb hX hbl hbA hS (inr_ok rfl) dL_law_346 ?_
  refine W.eq (g2 := F0 m 347 ls [.int z1, .ref mo, .int (-3)]) (by rw [ez1]; rfl) ?_
  refine lv_aload_n hx hb dL_law_347 rfl (lv_at hl 3 rfl) ?_
  refine lv_iload_n hx hb dL_law_348 rfl (lv_at hl 0 rfl) ?_
  refine lv_iconst (v := 2) hx hb dL_law_349 (by decide) ?_
  refine lv_iadd hx hb dL_law_350 ?_
  refine lv_topi (fun y_5 ey_5 => ?_)
  obtain rfl : y_5 = 2 := ey_5.trans (by decide)
  refine va_sld hx hb hX hbl hbA hS (inr_ok rfl) dL_law_351 ?_
  refine W.eq (g2 := F0 m 352 ls [.int z2, .int z1, .ref mo, .int (-3)]) (by rw [ez2]; rfl) ?_
  have hPc := hP.sub (ws' := [(mo, .inr (12, [.ref mq1, .int 0, .int 0, .ref mq3, .ref mq5, .ref mq7, .ref mq9, .ref mq11, .int 0, .int 0, .int 0, .int 0, .int 0, .int 0, .int 0, .ref mq13, .int 0, .ref mq15, .int 0, .ref mq17, .ref mq19, .int (-1), .int 0, .int 0, .int 0, .int 0, .int 0, .ref mq21, .int 0, .ref mq23, .ref mq25, .ref mq27, .int 0, .int 0, .int 0, .ref mq29, .ref mq31, .ref mq33, .long 0, .ref mq35, .ref mq37, .ref mq39, .ref mq41])), (mq19, .inl (mk20, 100, .inl (fun _ => 0)))]) [0, 1] rfl
  have hDc := hD.sub (ws' := [(mo, .inr (12, [.ref mq1, .int 0, .int 0, .ref mq3, .ref mq5, .ref mq7, .ref mq9, .ref mq11, .int 0, .int 0, .int 0, .int 0, .int 0, .int 0, .int 0, .ref mq13, .int 0, .ref mq15, .int 0, .ref mq17, .ref mq19, .int (-1), .int 0, .int 0, .int 0, .int 0, .int 0, .ref mq21, .int 0, .ref mq23, .ref mq25, .ref mq27, .int 0, .int 0, .int 0, .ref mq29, .ref mq31, .ref mq33, .long 0, .ref mq35, .ref mq37, .ref mq39, .ref mq41])), (mq19, .inl (mk20, 100, .inl (fun _ => 0)))]) [0, 1] (by decide) rfl
  have hKc := hK.sub (tys' := [(mk20, .int)]) [0] rfl
  have hFc := va_free (wc := [(mo, .inr (12, [.ref mq1, .int 0, .int 0, .ref mq3, .ref mq5, .ref mq7, .ref mq9, .ref mq11, .int 0, .int 0, .int 0, .int 0, .int 0, .int 0, .int 0, .ref mq13, .int 0, .ref mq15, .int 0, .ref mq17, .ref mq19, .int (-1), .int 0, .int 0, .int 0, .int 0, .int 0, .ref mq21, .int 0, .ref mq23, .ref mq25, .ref mq27, .int 0, .int 0, .int 0, .ref mq29, .ref mq31, .ref mq33, .long 0, .ref mq35, .ref mq37, .ref mq39, .ref mq41])), (mq19, .inl (mk20, 100, .inl (fun _ => 0)))]) hD hS hA [0, 1] rfl
  refine va_calli (va_runV (As := [.int z1, .int z2]) (rest := [.int (-3)]) ⟨hx, hb, hml, hown, hq⟩ (c_M_dish l dC dI _ mo mq1 mq3 mq5 mq7 mq9 mq11 mq13 mq15 mq17 mq19 mq21 mq23 mq25 mq27 mq29 mq31 mq33 mq35 mq37 mq39 mq41 mk20 z1 z2 ) (cwV 2 hq (gV qw_1472 qw_1473 qw_1474 qw_131 qw_1475) rfl rfl rfl (by decide +kernel) ⟨Nat.le_of_ble_eq_true rfl, Nat.le_of_ble_eq_true rfl⟩) ⟨fun a U g mk q => by obtain ⟨q0, q1, qP, qK, qD, qE⟩ := q; exact ⟨q0, q1, qP, va_K.moved (u := U) (U := U.calling g mk a) (Vm.Alike.refl U.vm) qK, qD, xE.same rfl qE⟩, va_recv hKc hPc (ci := 12) (q0 := 0) rfl rfl, fun U hU hW => ⟨rfl, by rw [hU], by rw [hU]; exact hPc, va_K.moved hW.alike hKc, hDc.weaken (fun _ _ _ _ => trivial), xE.warm hW hE⟩⟩ rfl rfl hl.1 rfl (lv_room (Nat.le_of_ble_eq_true rfl)) dL_law_352 ⟨Nat.le_of_ble_eq_true rfl, Nat.le_of_ble_eq_true rfl⟩) hS (fun q _ h => hFc q h) hFc (fun r_6 u t H1 locs ht hvm hw hB hz1 hk1 hS => ?_)
  have hP1 : va_P (dC, dI) classes [] H1 := vP_nil
  have hD1 : va_D (va_A [(mo, .inr (12, [.ref mq1, .int 0, .int 0, .ref mq3, .ref mq5, .ref mq7, .ref mq9, .ref mq11, .int 0, .int 0, .int 0, .int 0, .int 0, .int 0, .int 0, .ref mq13, .int 0, .ref mq15, .int 0, .ref mq17, .ref mq19, .int (-1), .int 0, .int 0, .int 0, .int 0, .int 0, .ref mq21, .int 0, .ref mq23, .ref mq25, .ref mq27, .int 0, .int 0, .int 0, .ref mq29, .ref mq31, .ref mq33, .long 0, .ref mq35, .ref mq37, .ref mq39, .ref mq41])), (mq19, .inl (mk20, 100, .inl (fun _ => 0)))] H.size) [] := vD_nil
  obtain ⟨hP, hD⟩ := va_join (wr := []) (w1 := []) hP hD [0, 1] [] rfl rfl (by decide) (by decide) hk1 hFc hP1 hD1
  generalize H1 = H at hP hS ⊢
  have hP : va_P (dC, dI) classes [] H := hP
  have hD : va_D A [] := hD
  obtain rfl : r_6 = (-3) := hw
  refine lv_icmp_eq (tgt := 1210) hx hb dL_law_355 (by decide) (fun _ => ?_) (fun c9 => absurd c9 (by decide))
  exact law_end C0 hAq hS (lv_sub hl [0, 1, 2, 3] rfl)
set_option maxHeartbeats 4000000 in
set_option maxRecDepth 100000 in
/-- guest, the first call -/
theorem law_6 {p : Program} {l : Launch} {e : Env} {s : State} {m : MethodId} {below : List Frame} {meth : Method} {c : Code} {A : Nat → Prop} {kA vA : Nat → Nat} {dC : Nat → ClassId} {dI : Nat → Nat → Nat} {b : Nat} {xs : Nat → Int32} {xo : Nat} {mo : Nat} {xq1 : Nat} {xq3 : Nat} {xq7 : Nat} {xq12 : Nat} {xq14 : Nat} {xq24 : Nat} {xq34 : Nat} {xq36 : Nat} {xq38 : Nat} {xq48 : Nat} {xq51 : Nat} {xq53 : Nat} {xq55 : Nat} {xq57 : Nat} {xq59 : Nat} {xq16 : Nat} {xq17 : Nat} {xq18 : Nat} {xq19 : Nat} {mq1 : Nat} {mq3 : Nat} {mq5 : Nat} {mq7 : Nat} {mq9 : Nat} {mq11 : Nat} {mq13 : Nat} {mq15 : Nat} {mq17 : Nat} {mq19 : Nat} {mq21 : Nat} {mq23 : Nat} {mq25 : Nat} {mq27 : Nat} {mq29 : Nat} {mq31 : Nat} {mq33 : Nat} {mq35 : Nat} {mq37 : Nat} {mq39 : Nat} {mq41 : Nat} {mk20 : ClassId} (C0 : lw_At p s m meth c b 6 xs) (hA : ∀ q : Nat, s.heap.size ≤ q → A q) (hAq : ∀ q : Nat, A q → s.heap.size ≤ q) (hE : xE s) (hT : xT kA vA A s s.heap) (hK : va_K (dC, dI) classes [(mk20, .int)] s) {H : Heap} {locs : List Loc} (hP : va_P (dC, dI) classes [(xo, .inr (11, [.ref xq1, .int 0, .ref xq3, .ref xq7, .ref xq12, .int 0, .int (-1), .ref xq14, .ref xq24, .ref xq34, .ref xq36, .ref xq38, .ref xq48, .ref xq51, .ref xq53, .ref xq55, .ref xq57, .ref xq59, .int 0])), (xq14, .inr (1, [.int 0, .int 0, .int 0, .ref xq16, .ref xq17, .ref xq18, .ref xq19])), (mo, .inr (12, [.ref mq1, .int 0, .int 0, .ref mq3, .ref mq5, .ref mq7, .ref mq9, .ref mq11, .int 0, .int 0, .int 0, .int 0, .int 0, .int 0, .int 0, .ref mq13, .int 0, .ref mq15, .int 0, .ref mq17, .ref mq19, .int (-1), .int 0, .int 0, .int 0, .int 0, .int 0, .ref mq21, .int 0, .ref mq23, .ref mq25, .ref mq27, .int 0, .int 0, .int 0, .ref mq29, .ref mq31, .ref mq33, .long 0, .ref mq35, .ref mq37, .ref mq39, .ref mq41])), (mq19, .inl (mk20, 100, .inl (fun _ => 0)))] H) (hD : va_D A [(xo, .inr (11, [.ref xq1, .int 0, .ref xq3, .ref xq7, .ref xq12, .int 0, .int (-1), .ref xq14, .ref xq24, .ref xq34, .ref xq36, .ref xq38, .ref xq48, .ref xq51, .ref xq53, .ref xq55, .ref xq57, .ref xq59, .int 0])), (xq14, .inr (1, [.int 0, .int 0, .int 0, .ref xq16, .ref xq17, .ref xq18, .ref xq19])), (mo, .inr (12, [.ref mq1, .int 0, .int 0, .ref mq3, .ref mq5, .ref mq7, .ref mq9, .ref mq11, .int 0, .int 0, .int 0, .int 0, .int 0, .int 0, .int 0, .ref mq13, .int 0, .ref mq15, .int 0, .ref mq17, .ref mq19, .int (-1), .int 0, .int 0, .int 0, .int 0, .int 0, .ref mq21, .int 0, .ref mq23, .ref mq25, .ref mq27, .int 0, .int 0, .int 0, .ref mq29, .ref mq31, .ref mq33, .long 0, .ref mq35, .ref mq37, .ref mq39, .ref mq41])), (mq19, .inl (mk20, 100, .inl (fun _ => 0)))]) (hS : va_S A s.heap H locs) {ls : Array Slot} (hl : lv_has ls 4 [(3, .int 0), (2, .ref mo), (1, .ref xo), (0, .ref b)]) : W p l e room_1 s m #[Value.ref b] below meth c H locs 152 8829 (lw_Z below #[Value.ref b] s) (F0 m 360 ls []) := by
  obtain ⟨hx, hb, hr, hml, hown, hts, hX, hbl, hlocks, hgv⟩ := id C0
  have hown : s.vm.findClass RL = some m.cls := hown
  have hq : ∀ w ∈ wsA, w.before _ s = true := fun w h => hts w (List.mem_filter.mp h).1
  have hbA : ¬ A b := fun h => Nat.not_le.mpr hbl (hAq b h)
  obtain ⟨z1, ez1⟩ : ∃ z : Int32, z = xs 1 := ⟨_, rfl⟩
  obtain ⟨z2, ez2⟩ : ∃ z : Int32, z = xs 2 := ⟨_, rfl⟩
  refine lv_aload_n hx hb dL_law_360 rfl (lv_at hl 2 rfl) ?_
  refine lv_aload_n hx hb dL_law_361 rfl (lv_at hl 3 rfl) ?_
  refine lv_iload_n hx hb dL_law_362 rfl (lv_at hl 0 rfl) ?_
  refine lv_iconst (v := 1) hx hb dL_law_363 (by decide) ?_
  refine lv_iadd hx hb dL_law_364 ?_
  refine lv_topi (fun y_1 ey_1 => ?_)
  obtain rfl : y_1 = 1 := ey_1.trans (by decide)
  refine va_sld hx hb hX hbl hbA hS (inr_ok rfl) dL_law_365 ?_
  refine W.eq (g2 := F0 m 366 ls [.int z1, .ref xo]) (by rw [ez1]; rfl) ?_
  refine lv_aload_n hx hb dL_law_366 rfl (lv_at hl 3 rfl) ?_
  refine lv_iload_n hx hb dL_law_367 rfl (lv_at hl 0 rfl) ?_
  refine lv_iconst (v := 2) hx hb dL_law_368 (by decide) ?_
  refine lv_iadd hx hb dL_law_369 ?_
  refine lv_topi (fun y_2 ey_2 => ?_)
  obtain rfl : y_2 = 2 := ey_2.trans (by decide)
  refine va_sld hx hb hX hbl hbA hS (inr_ok rfl) dL_law_370 ?_
  refine W.eq (g2 := F0 m 371 ls [.int z2, .int z1, .ref xo]) (by rw [ez2]; rfl) ?_
  have hPc := hP.sub (ws' := [(xo, .inr (11, [.ref xq1, .int 0, .ref xq3, .ref xq7, .ref xq12, .int 0, .int (-1), .ref xq14, .ref xq24, .ref xq34, .ref xq36, .ref xq38, .ref xq48, .ref xq51, .ref xq53, .ref xq55, .ref xq57, .ref xq59, .int 0])), (xq14, .inr (1, [.int 0, .int 0, .int 0, .ref xq16, .ref xq17, .ref xq18, .ref xq19]))]) [0, 1] rfl
  have hDc := hD.sub (ws' := [(xo, .inr (11, [.ref xq1, .int 0, .ref xq3, .ref xq7, .ref xq12, .int 0, .int (-1), .ref xq14, .ref xq24, .ref xq34, .ref xq36, .ref xq38, .ref xq48, .ref xq51, .ref xq53, .ref xq55, .ref xq57, .ref xq59, .int 0])), (xq14, .inr (1, [.int 0, .int 0, .int 0, .ref xq16, .ref xq17, .ref xq18, .ref xq19]))]) [0, 1] (by decide) rfl
  have hKc := hK.sub (tys' := []) [] rfl
  have hFc := va_free (wc := [(xo, .inr (11, [.ref xq1, .int 0, .ref xq3, .ref xq7, .ref xq12, .int 0, .int (-1), .ref xq14, .ref xq24, .ref xq34, .ref xq36, .ref xq38, .ref xq48, .ref xq51, .ref xq53, .ref xq55, .ref xq57, .ref xq59, .int 0])), (xq14, .inr (1, [.int 0, .int 0, .int 0, .ref xq16, .ref xq17, .ref xq18, .ref xq19]))]) hD hS hA [0, 1] rfl
  refine va_calli (va_runV (As := [.int z1, .int z2]) (rest := []) ⟨hx, hb, hml, hown, hq⟩ (c_SB_guest l dC dI _ xo xq1 xq3 xq7 xq12 xq14 xq24 xq34 xq36 xq38 xq48 xq51 xq53 xq55 xq57 xq59 xq16 xq17 xq18 xq19 z1 z2 ) (cwV 2 hq (gV qw_758 qw_759 qw_760 qw_119 qw_761) rfl rfl rfl (by decide +kernel) ⟨Nat.le_of_ble_eq_true rfl, Nat.le_of_ble_eq_true rfl⟩) ⟨fun a U g mk q => by obtain ⟨q0, q1, qP, qK, qD, qE⟩ := q; exact ⟨q0, q1, qP, va_K.moved (u := U) (U := U.calling g mk a) (Vm.Alike.refl U.vm) qK, qD, xE.same rfl qE⟩, va_recv hKc hPc (ci := 11) (q0 := 0) rfl rfl, fun U hU hW => ⟨rfl, by rw [hU], by rw [hU]; exact hPc, va_K.moved hW.alike hKc, hDc.weaken (fun _ _ _ _ => trivial), xE.warm hW hE⟩⟩ rfl rfl hl.1 rfl (lv_room (Nat.le_of_ble_eq_true rfl)) dL_law_371 ⟨Nat.le_of_ble_eq_true rfl, Nat.le_of_ble_eq_true rfl⟩) hS (fun q _ h => hFc q h) hFc (fun r_3 u t H1 locs ht hvm hw hB hz1 hk1 hS => ?_)
  have hP1 : va_P (dC, dI) classes [] H1 := vP_nil
  have hD1 : va_D (va_A [(xo, .inr (11, [.ref xq1, .int 0, .ref xq3, .ref xq7, .ref xq12, .int 0, .int (-1), .ref xq14, .ref xq24, .ref xq34, .ref xq36, .ref xq38, .ref xq48, .ref xq51, .ref xq53, .ref xq55, .ref xq57, .ref xq59, .int 0])), (xq14, .inr (1, [.int 0, .int 0, .int 0, .ref xq16, .ref xq17, .ref xq18, .ref xq19]))] H.size) [] := vD_nil
  obtain ⟨hP, hD⟩ := va_join (wr := [(mo, .inr (12, [.ref mq1, .int 0, .int 0, .ref mq3, .ref mq5, .ref mq7, .ref mq9, .ref mq11, .int 0, .int 0, .int 0, .int 0, .int 0, .int 0, .int 0, .ref mq13, .int 0, .ref mq15, .int 0, .ref mq17, .ref mq19, .int (-1), .int 0, .int 0, .int 0, .int 0, .int 0, .ref mq21, .int 0, .ref mq23, .ref mq25, .ref mq27, .int 0, .int 0, .int 0, .ref mq29, .ref mq31, .ref mq33, .long 0, .ref mq35, .ref mq37, .ref mq39, .ref mq41])), (mq19, .inl (mk20, 100, .inl (fun _ => 0)))]) (w1 := []) hP hD [0, 1] [2, 3] rfl rfl (by decide) (by decide) hk1 hFc hP1 hD1
  generalize H1 = H at hP hS ⊢
  have hP : va_P (dC, dI) classes [(mo, .inr (12, [.ref mq1, .int 0, .int 0, .ref mq3, .ref mq5, .ref mq7, .ref mq9, .ref mq11, .int 0, .int 0, .int 0, .int 0, .int 0, .int 0, .int 0, .ref mq13, .int 0, .ref mq15, .int 0, .ref mq17, .ref mq19, .int (-1), .int 0, .int 0, .int 0, .int 0, .int 0, .ref mq21, .int 0, .ref mq23, .ref mq25, .ref mq27, .int 0, .int 0, .int 0, .ref mq29, .ref mq31, .ref mq33, .long 0, .ref mq35, .ref mq37, .ref mq39, .ref mq41])), (mq19, .inl (mk20, 100, .inl (fun _ => 0)))] H := hP
  have hD : va_D A [(mo, .inr (12, [.ref mq1, .int 0, .int 0, .ref mq3, .ref mq5, .ref mq7, .ref mq9, .ref mq11, .int 0, .int 0, .int 0, .int 0, .int 0, .int 0, .int 0, .ref mq13, .int 0, .ref mq15, .int 0, .ref mq17, .ref mq19, .int (-1), .int 0, .int 0, .int 0, .int 0, .int 0, .ref mq21, .int 0, .ref mq23, .ref mq25, .ref mq27, .int 0, .int 0, .int 0, .ref mq29, .ref mq31, .ref mq33, .long 0, .ref mq35, .ref mq37, .ref mq39, .ref mq41])), (mq19, .inl (mk20, 100, .inl (fun _ => 0)))] := hD
  obtain rfl : r_3 = (-1) := hw
  refine lv_aload_n hx hb dL_law_374 rfl (lv_at hl 1 rfl) ?_
  refine lv_aload_n hx hb dL_law_375 rfl (lv_at hl 3 rfl) ?_
  refine lv_iload_n hx hb dL_law_376 rfl (lv_at hl 0 rfl) ?_
  refine lv_iconst (v := 1) hx hb dL_law_377 (by decide) ?_
  refine lv_iadd hx hb dL_law_378 ?_
  refine lv_topi (fun y_4 ey_4 => ?_)
  obtain rfl : y_4 = 1 := ey_4.trans (by decide)
  refine va_sld hx hb hX hbl hbA hS (inr_ok rfl) dL_law_379 ?_
  refine W.eq (g2 := F0 m 380 ls [.int z1, .ref mo, .int (-1)]) (by rw [ez1]; rfl) ?_
  refine lv_aload_n hx hb dL_law_380 rfl (lv_at hl 3 rfl) ?_
  refine lv_iload_n hx hb dL_law_381 rfl (lv_at hl 0 rfl) ?_
  refine lv_iconst (v := 2) hx hb dL_law_382 (by decide) ?_
  refine lv_iadd hx hb dL_law_383 ?_
  refine lv_topi (fun y_5 ey_5 => ?_)
  obtain rfl : y_5 = 2 := ey_5.trans (by decide)
  refine va_sld hx hb hX hbl hbA hS (inr_ok rfl) dL_law_384 ?_
  refine W.eq (g2 := F0 m 385 ls [.int z2, .int z1, .ref mo, .int (-1)]) (by rw [ez2]; rfl) ?_
  have hPc := hP.sub (ws' := [(mo, .inr (12, [.ref mq1, .int 0, .int 0, .ref mq3, .ref mq5, .ref mq7, .ref mq9, .ref mq11, .int 0, .int 0, .int 0, .int 0, .int 0, .int 0, .int 0, .ref mq13, .int 0, .ref mq15, .int 0, .ref mq17, .ref mq19, .int (-1), .int 0, .int 0, .int 0, .int 0, .int 0, .ref mq21, .int 0, .ref mq23, .ref mq25, .ref mq27, .int 0, .int 0, .int 0, .ref mq29, .ref mq31, .ref mq33, .long 0, .ref mq35, .ref mq37, .ref mq39, .ref mq41])), (mq19, .inl (mk20, 100, .inl (fun _ => 0)))]) [0, 1] rfl
  have hDc := hD.sub (ws' := [(mo, .inr (12, [.ref mq1, .int 0, .int 0, .ref mq3, .ref mq5, .ref mq7, .ref mq9, .ref mq11, .int 0, .int 0, .int 0, .int 0, .int 0, .int 0, .int 0, .ref mq13, .int 0, .ref mq15, .int 0, .ref mq17, .ref mq19, .int (-1), .int 0, .int 0, .int 0, .int 0, .int 0, .ref mq21, .int 0, .ref mq23, .ref mq25, .ref mq27, .int 0, .int 0, .int 0, .ref mq29, .ref mq31, .ref mq33, .long 0, .ref mq35, .ref mq37, .ref mq39, .ref mq41])), (mq19, .inl (mk20, 100, .inl (fun _ => 0)))]) [0, 1] (by decide) rfl
  have hKc := hK.sub (tys' := [(mk20, .int)]) [0] rfl
  have hFc := va_free (wc := [(mo, .inr (12, [.ref mq1, .int 0, .int 0, .ref mq3, .ref mq5, .ref mq7, .ref mq9, .ref mq11, .int 0, .int 0, .int 0, .int 0, .int 0, .int 0, .int 0, .ref mq13, .int 0, .ref mq15, .int 0, .ref mq17, .ref mq19, .int (-1), .int 0, .int 0, .int 0, .int 0, .int 0, .ref mq21, .int 0, .ref mq23, .ref mq25, .ref mq27, .int 0, .int 0, .int 0, .ref mq29, .ref mq31, .ref mq33, .long 0, .ref mq35, .ref mq37, .ref mq39, .ref mq41])), (mq19, .inl (mk20, 100, .inl (fun _ => 0)))]) hD hS hA [0, 1] rfl
  refine va_calli (va_runV (As := [.int z1, .int z2]) (rest := [.int (-1)]) ⟨hx, hb, hml, hown, hq⟩ (c_M_guest l dC dI _ mo mq1 mq3 mq5 mq7 mq9 mq11 mq13 mq15 mq17 mq19 mq21 mq23 mq25 mq27 mq29 mq31 mq33 mq35 mq37 mq39 mq41 mk20 z1 z2 ) (cwV 2 hq (gV qw_1481 qw_1482 qw_1483 qw_131 qw_1484) rfl rfl rfl (by decide +kernel) ⟨Nat.le_of_ble_eq_true rfl, Nat.le_of_ble_eq_true rfl⟩) ⟨fun a U g mk q => by obtain ⟨q0, q1, qP, qK, qD, qE⟩ := q; exact ⟨q0, q1, qP, va_K.moved (u := U) (U := U.calling g mk a) (Vm.Alike.refl U.vm) qK, qD, xE.same rfl qE⟩, va_recv hKc hPc (ci := 12) (q0 := 0) rfl rfl, fun U hU hW => ⟨rfl, by rw [hU], by rw [hU]; exact hPc, va_K.moved hW.alike hKc, hDc.weaken (fun _ _ _ _ => trivial), xE.warm hW hE⟩⟩ rfl rfl hl.1 rfl (lv_room (Nat.le_of_ble_eq_true rfl)) dL_law_385 ⟨Nat.le_of_ble_eq_true rfl, Nat.le_of_ble_eq_true rfl⟩) hS (fun q _ h => hFc q h) hFc (fun r_6 u t H1 locs ht hvm hw hB hz1 hk1 hS => ?_)
  have hP1 : va_P (dC, dI) classes [] H1 := vP_nil
  have hD1 : va_D (va_A [(mo, .inr (12, [.ref mq1, .int 0, .int 0, .ref mq3, .ref mq5, .ref mq7, .ref mq9, .ref mq11, .int 0, .int 0, .int 0, .int 0, .int 0, .int 0, .int 0, .ref mq13, .int 0, .ref mq15, .int 0, .ref mq17, .ref mq19, .int (-1), .int 0, .int 0, .int 0, .int 0, .int 0, .ref mq21, .int 0, .ref mq23, .ref mq25, .ref mq27, .int 0, .int 0, .int 0, .ref mq29, .ref mq31, .ref mq33, .long 0, .ref mq35, .ref mq37, .ref mq39, .ref mq41])), (mq19, .inl (mk20, 100, .inl (fun _ => 0)))] H.size) [] := vD_nil
  obtain ⟨hP, hD⟩ := va_join (wr := []) (w1 := []) hP hD [0, 1] [] rfl rfl (by decide) (by decide) hk1 hFc hP1 hD1
  generalize H1 = H at hP hS ⊢
  have hP : va_P (dC, dI) classes [] H := hP
  have hD : va_D A [] := hD
  obtain rfl : r_6 = (-1) := hw
  refine lv_icmp_eq (tgt := 1210) hx hb dL_law_388 (by decide) (fun _ => ?_) (fun c9 => absurd c9 (by decide))
  exact law_end C0 hAq hS (lv_sub hl [0, 1, 2, 3] rfl)
set_option maxHeartbeats 4000000 in
set_option maxRecDepth 100000 in
/-- clashes, the first call -/
theorem law_7 {p : Program} {l : Launch} {e : Env} {s : State} {m : MethodId} {below : List Frame} {meth : Method} {c : Code} {A : Nat → Prop} {kA vA : Nat → Nat} {dC : Nat → ClassId} {dI : Nat → Nat → Nat} {b : Nat} {xs : Nat → Int32} {xo : Nat} {mo : Nat} {xq1 : Nat} {xq3 : Nat} {xq7 : Nat} {xq12 : Nat} {xq14 : Nat} {xq24 : Nat} {xq34 : Nat} {xq36 : Nat} {xq38 : Nat} {xq48 : Nat} {xq51 : Nat} {xq53 : Nat} {xq55 : Nat} {xq57 : Nat} {xq59 : Nat} {xq16 : Nat} {xq17 : Nat} {xq18 : Nat} {xq19 : Nat} {mq1 : Nat} {mq3 : Nat} {mq5 : Nat} {mq7 : Nat} {mq9 : Nat} {mq11 : Nat} {mq13 : Nat} {mq15 : Nat} {mq17 : Nat} {mq19 : Nat} {mq21 : Nat} {mq23 : Nat} {mq25 : Nat} {mq27 : Nat} {mq29 : Nat} {mq31 : Nat} {mq33 : Nat} {mq35 : Nat} {mq37 : Nat} {mq39 : Nat} {mq41 : Nat} {mk20 : ClassId} (C0 : lw_At p s m meth c b 6 xs) (hA : ∀ q : Nat, s.heap.size ≤ q → A q) (hAq : ∀ q : Nat, A q → s.heap.size ≤ q) (hE : xE s) (hT : xT kA vA A s s.heap) (hK : va_K (dC, dI) classes [(mk20, .int)] s) {H : Heap} {locs : List Loc} (hP : va_P (dC, dI) classes [(xo, .inr (11, [.ref xq1, .int 0, .ref xq3, .ref xq7, .ref xq12, .int 0, .int (-1), .ref xq14, .ref xq24, .ref xq34, .ref xq36, .ref xq38, .ref xq48, .ref xq51, .ref xq53, .ref xq55, .ref xq57, .ref xq59, .int 0])), (xq14, .inr (1, [.int 0, .int 0, .int 0, .ref xq16, .ref xq17, .ref xq18, .ref xq19])), (mo, .inr (12, [.ref mq1, .int 0, .int 0, .ref mq3, .ref mq5, .ref mq7, .ref mq9, .ref mq11, .int 0, .int 0, .int 0, .int 0, .int 0, .int 0, .int 0, .ref mq13, .int 0, .ref mq15, .int 0, .ref mq17, .ref mq19, .int (-1), .int 0, .int 0, .int 0, .int 0, .int 0, .ref mq21, .int 0, .ref mq23, .ref mq25, .ref mq27, .int 0, .int 0, .int 0, .ref mq29, .ref mq31, .ref mq33, .long 0, .ref mq35, .ref mq37, .ref mq39, .ref mq41])), (mq19, .inl (mk20, 100, .inl (fun _ => 0)))] H) (hD : va_D A [(xo, .inr (11, [.ref xq1, .int 0, .ref xq3, .ref xq7, .ref xq12, .int 0, .int (-1), .ref xq14, .ref xq24, .ref xq34, .ref xq36, .ref xq38, .ref xq48, .ref xq51, .ref xq53, .ref xq55, .ref xq57, .ref xq59, .int 0])), (xq14, .inr (1, [.int 0, .int 0, .int 0, .ref xq16, .ref xq17, .ref xq18, .ref xq19])), (mo, .inr (12, [.ref mq1, .int 0, .int 0, .ref mq3, .ref mq5, .ref mq7, .ref mq9, .ref mq11, .int 0, .int 0, .int 0, .int 0, .int 0, .int 0, .int 0, .ref mq13, .int 0, .ref mq15, .int 0, .ref mq17, .ref mq19, .int (-1), .int 0, .int 0, .int 0, .int 0, .int 0, .ref mq21, .int 0, .ref mq23, .ref mq25, .ref mq27, .int 0, .int 0, .int 0, .ref mq29, .ref mq31, .ref mq33, .long 0, .ref mq35, .ref mq37, .ref mq39, .ref mq41])), (mq19, .inl (mk20, 100, .inl (fun _ => 0)))]) (hS : va_S A s.heap H locs) {ls : Array Slot} (hl : lv_has ls 4 [(3, .int 0), (2, .ref mo), (1, .ref xo), (0, .ref b)]) : W p l e room_1 s m #[Value.ref b] below meth c H locs 152 8829 (lw_Z below #[Value.ref b] s) (F0 m 393 ls []) := by
  obtain ⟨hx, hb, hr, hml, hown, hts, hX, hbl, hlocks, hgv⟩ := id C0
  have hown : s.vm.findClass RL = some m.cls := hown
  have hq : ∀ w ∈ wsA, w.before _ s = true := fun w h => hts w (List.mem_filter.mp h).1
  have hbA : ¬ A b := fun h => Nat.not_le.mpr hbl (hAq b h)
  obtain ⟨z1, ez1⟩ : ∃ z : Int32, z = xs 1 := ⟨_, rfl⟩
  refine lv_aload_n hx hb dL_law_393 rfl (lv_at hl 2 rfl) ?_
  refine lv_aload_n hx hb dL_law_394 rfl (lv_at hl 3 rfl) ?_
  refine lv_iload_n hx hb dL_law_395 rfl (lv_at hl 0 rfl) ?_
  refine lv_iconst (v := 1) hx hb dL_law_396 (by decide) ?_
  refine lv_iadd hx hb dL_law_397 ?_
  refine lv_topi (fun y_1 ey_1 => ?_)
  obtain rfl : y_1 = 1 := ey_1.trans (by decide)
  refine va_sld hx hb hX hbl hbA hS (inr_ok rfl) dL_law_398 ?_
  refine W.eq (g2 := F0 m 399 ls [.int z1, .ref xo]) (by rw [ez1]; rfl) ?_
  have hPc := hP.sub (ws' := [(xo, .inr (11, [.ref xq1, .int 0, .ref xq3, .ref xq7, .ref xq12, .int 0, .int (-1), .ref xq14, .ref xq24, .ref xq34, .ref xq36, .ref xq38, .ref xq48, .ref xq51, .ref xq53, .ref xq55, .ref xq57, .ref xq59, .int 0])), (xq14, .inr (1, [.int 0, .int 0, .int 0, .ref xq16, .ref xq17, .ref xq18, .ref xq19]))]) [0, 1] rfl
  have hDc := hD.sub (ws' := [(xo, .inr (11, [.ref xq1, .int 0, .ref xq3, .ref xq7, .ref xq12, .int 0, .int (-1), .ref xq14, .ref xq24, .ref xq34, .ref xq36, .ref xq38, .ref xq48, .ref xq51, .ref xq53, .ref xq55, .ref xq57, .ref xq59, .int 0])), (xq14, .inr (1, [.int 0, .int 0, .int 0, .ref xq16, .ref xq17, .ref xq18, .ref xq19]))]) [0, 1] (by decide) rfl
  have hKc := hK.sub (tys' := []) [] rfl
  have hFc := va_free (wc := [(xo, .inr (11, [.ref xq1, .int 0, .ref xq3, .ref xq7, .ref xq12, .int 0, .int (-1), .ref xq14, .ref xq24, .ref xq34, .ref xq36, .ref xq38, .ref xq48, .ref xq51, .ref xq53, .ref xq55, .ref xq57, .ref xq59, .int 0])), (xq14, .inr (1, [.int 0, .int 0, .int 0, .ref xq16, .ref xq17, .ref xq18, .ref xq19]))]) hD hS hA [0, 1] rfl
  refine va_calli (va_runV (As := [.int z1]) (rest := []) ⟨hx, hb, hml, hown, hq⟩ (c_SB_clashes l dC dI _ xo xq1 xq3 xq7 xq12 xq14 xq24 xq34 xq36 xq38 xq48 xq51 xq53 xq55 xq57 xq59 xq16 xq17 xq18 xq19 z1 ) (cwV 1 hq (gV qw_774 qw_775 qw_776 qw_119 qw_777) rfl rfl rfl (by decide +kernel) ⟨Nat.le_of_ble_eq_true rfl, Nat.le_of_ble_eq_true rfl⟩) ⟨fun a U g mk q => by obtain ⟨q0, q1, qP, qK, qD, qE⟩ := q; exact ⟨q0, q1, qP, va_K.moved (u := U) (U := U.calling g mk a) (Vm.Alike.refl U.vm) qK, qD, xE.same rfl qE⟩, va_recv hKc hPc (ci := 11) (q0 := 0) rfl rfl, fun U hU hW => ⟨rfl, by rw [hU], by rw [hU]; exact hPc, va_K.moved hW.alike hKc, hDc.weaken (fun _ _ _ _ => trivial), xE.warm hW hE⟩⟩ rfl rfl hl.1 rfl (lv_room (Nat.le_of_ble_eq_true rfl)) dL_law_399 ⟨Nat.le_of_ble_eq_true rfl, Nat.le_of_ble_eq_true rfl⟩) hS (fun q _ h => hFc q h) hFc (fun r_2 u t H1 locs ht hvm hw hB hz1 hk1 hS => ?_)
  have hP1 : va_P (dC, dI) classes [] H1 := vP_nil
  have hD1 : va_D (va_A [(xo, .inr (11, [.ref xq1, .int 0, .ref xq3, .ref xq7, .ref xq12, .int 0, .int (-1), .ref xq14, .ref xq24, .ref xq34, .ref xq36, .ref xq38, .ref xq48, .ref xq51, .ref xq53, .ref xq55, .ref xq57, .ref xq59, .int 0])), (xq14, .inr (1, [.int 0, .int 0, .int 0, .ref xq16, .ref xq17, .ref xq18, .ref xq19]))] H.size) [] := vD_nil
  obtain ⟨hP, hD⟩ := va_join (wr := [(mo, .inr (12, [.ref mq1, .int 0, .int 0, .ref mq3, .ref mq5, .ref mq7, .ref mq9, .ref mq11, .int 0, .int 0, .int 0, .int 0, .int 0, .int 0, .int 0, .ref mq13, .int 0, .ref mq15, .int 0, .ref mq17, .ref mq19, .int (-1), .int 0, .int 0, .int 0, .int 0, .int 0, .ref mq21, .int 0, .ref mq23, .ref mq25, .ref mq27, .int 0, .int 0, .int 0, .ref mq29, .ref mq31, .ref mq33, .long 0, .ref mq35, .ref mq37, .ref mq39, .ref mq41])), (mq19, .inl (mk20, 100, .inl (fun _ => 0)))]) (w1 := []) hP hD [0, 1] [2, 3] rfl rfl (by decide) (by decide) hk1 hFc hP1 hD1
  generalize H1 = H at hP hS ⊢
  have hP : va_P (dC, dI) classes [(mo, .inr (12, [.ref mq1, .int 0, .int 0, .ref mq3, .ref mq5, .ref mq7, .ref mq9, .ref mq11, .int 0, .int 0, .int 0, .int 0, .int 0, .int 0, .int 0, .ref mq13, .int 0, .ref mq15, .int 0, .ref mq17, .ref mq19, .int (-1), .int 0, .int 0, .int 0, .int 0, .int 0, .ref mq21, .int 0, .ref mq23, .ref mq25, .ref mq27, .int 0, .int 0, .int 0, .ref mq29, .ref mq31, .ref mq33, .long 0, .ref mq35, .ref mq37, .ref mq39, .ref mq41])), (mq19, .inl (mk20, 100, .inl (fun _ => 0)))] H := hP
  have hD : va_D A [(mo, .inr (12, [.ref mq1, .int 0, .int 0, .ref mq3, .ref mq5, .ref mq7, .ref mq9, .ref mq11, .int 0, .int 0, .int 0, .int 0, .int 0, .int 0, .int 0, .ref mq13, .int 0, .ref mq15, .int 0, .ref mq17, .ref mq19, .int (-1), .int 0, .int 0, .int 0, .int 0, .int 0, .ref mq21, .int 0, .ref mq23, .ref mq25, .ref mq27, .int 0, .int 0, .int 0, .ref mq29, .ref mq31, .ref mq33, .long 0, .ref mq35, .ref mq37, .ref mq39, .ref mq41])), (mq19, .inl (mk20, 100, .inl (fun _ => 0)))] := hD
  obtain rfl : r_2 = (-1) := hw
  refine lv_aload_n hx hb dL_law_402 rfl (lv_at hl 1 rfl) ?_
  refine lv_aload_n hx hb dL_law_403 rfl (lv_at hl 3 rfl) ?_
  refine lv_iload_n hx hb dL_law_404 rfl (lv_at hl 0 rfl) ?_
  refine lv_iconst (v := 1) hx hb dL_law_405 (by decide) ?_
  refine lv_iadd hx hb dL_law_406 ?_
  refine lv_topi (fun y_3 ey_3 => ?_)
  obtain rfl : y_3 = 1 := ey_3.trans (by decide)
  refine va_sld hx hb hX hbl hbA hS (inr_ok rfl) dL_law_407 ?_
  refine W.eq (g2 := F0 m 408 ls [.int z1, .ref mo, .int (-1)]) (by rw [ez1]; rfl) ?_
  have hPc := hP.sub (ws' := [(mo, .inr (12, [.ref mq1, .int 0, .int 0, .ref mq3, .ref mq5, .ref mq7, .ref mq9, .ref mq11, .int 0, .int 0, .int 0, .int 0, .int 0, .int 0, .int 0, .ref mq13, .int 0, .ref mq15, .int 0, .ref mq17, .ref mq19, .int (-1), .int 0, .int 0, .int 0, .int 0, .int 0, .ref mq21, .int 0, .ref mq23, .ref mq25, .ref mq27, .int 0, .int 0, .int 0, .ref mq29, .ref mq31, .ref mq33, .long 0, .ref mq35, .ref mq37, .ref mq39, .ref mq41])), (mq19, .inl (mk20, 100, .inl (fun _ => 0)))]) [0, 1] rfl
  have hDc := hD.sub (ws' := [(mo, .inr (12, [.ref mq1, .int 0, .int 0, .ref mq3, .ref mq5, .ref mq7, .ref mq9, .ref mq11, .int 0, .int 0, .int 0, .int 0, .int 0, .int 0, .int 0, .ref mq13, .int 0, .ref mq15, .int 0, .ref mq17, .ref mq19, .int (-1), .int 0, .int 0, .int 0, .int 0, .int 0, .ref mq21, .int 0, .ref mq23, .ref mq25, .ref mq27, .int 0, .int 0, .int 0, .ref mq29, .ref mq31, .ref mq33, .long 0, .ref mq35, .ref mq37, .ref mq39, .ref mq41])), (mq19, .inl (mk20, 100, .inl (fun _ => 0)))]) [0, 1] (by decide) rfl
  have hKc := hK.sub (tys' := [(mk20, .int)]) [0] rfl
  have hFc := va_free (wc := [(mo, .inr (12, [.ref mq1, .int 0, .int 0, .ref mq3, .ref mq5, .ref mq7, .ref mq9, .ref mq11, .int 0, .int 0, .int 0, .int 0, .int 0, .int 0, .int 0, .ref mq13, .int 0, .ref mq15, .int 0, .ref mq17, .ref mq19, .int (-1), .int 0, .int 0, .int 0, .int 0, .int 0, .ref mq21, .int 0, .ref mq23, .ref mq25, .ref mq27, .int 0, .int 0, .int 0, .ref mq29, .ref mq31, .ref mq33, .long 0, .ref mq35, .ref mq37, .ref mq39, .ref mq41])), (mq19, .inl (mk20, 100, .inl (fun _ => 0)))]) hD hS hA [0, 1] rfl
  refine va_calli (va_runV (As := [.int z1]) (rest := [.int (-1)]) ⟨hx, hb, hml, hown, hq⟩ (c_M_clashes l dC dI _ mo mq1 mq3 mq5 mq7 mq9 mq11 mq13 mq15 mq17 mq19 mq21 mq23 mq25 mq27 mq29 mq31 mq33 mq35 mq37 mq39 mq41 mk20 z1 ) (cwV 1 hq (gV qw_1489 qw_1490 qw_1491 qw_131 qw_1492) rfl rfl rfl (by decide +kernel) ⟨Nat.le_of_ble_eq_true rfl, Nat.le_of_ble_eq_true rfl⟩) ⟨fun a U g mk q => by obtain ⟨q0, q1, qP, qK, qD, qE⟩ := q; exact ⟨q0, q1, qP, va_K.moved (u := U) (U := U.calling g mk a) (Vm.Alike.refl U.vm) qK, qD, xE.same rfl qE⟩, va_recv hKc hPc (ci := 12) (q0 := 0) rfl rfl, fun U hU hW => ⟨rfl, by rw [hU], by rw [hU]; exact hPc, va_K.moved hW.alike hKc, hDc.weaken (fun _ _ _ _ => trivial), xE.warm hW hE⟩⟩ rfl rfl hl.1 rfl (lv_room (Nat.le_of_ble_eq_true rfl)) dL_law_408 ⟨Nat.le_of_ble_eq_true rfl, Nat.le_of_ble_eq_true rfl⟩) hS (fun q _ h => hFc q h) hFc (fun r_4 u t H1 locs ht hvm hw hB hz1 hk1 hS => ?_)
  have hP1 : va_P (dC, dI) classes [] H1 := vP_nil
  have hD1 : va_D (va_A [(mo, .inr (12, [.ref mq1, .int 0, .int 0, .ref mq3, .ref mq5, .ref mq7, .ref mq9, .ref mq11, .int 0, .int 0, .int 0, .int 0, .int 0, .int 0, .int 0, .ref mq13, .int 0, .ref mq15, .int 0, .ref mq17, .ref mq19, .int (-1), .int 0, .int 0, .int 0, .int 0, .int 0, .ref mq21, .int 0, .ref mq23, .ref mq25, .ref mq27, .int 0, .int 0, .int 0, .ref mq29, .ref mq31, .ref mq33, .long 0, .ref mq35, .ref mq37, .ref mq39, .ref mq41])), (mq19, .inl (mk20, 100, .inl (fun _ => 0)))] H.size) [] := vD_nil
  obtain ⟨hP, hD⟩ := va_join (wr := []) (w1 := []) hP hD [0, 1] [] rfl rfl (by decide) (by decide) hk1 hFc hP1 hD1
  generalize H1 = H at hP hS ⊢
  have hP : va_P (dC, dI) classes [] H := hP
  have hD : va_D A [] := hD
  obtain rfl : r_4 = (-1) := hw
  refine lv_icmp_eq (tgt := 1210) hx hb dL_law_411 (by decide) (fun _ => ?_) (fun c9 => absurd c9 (by decide))
  exact law_end C0 hAq hS (lv_sub hl [0, 1, 2, 3] rfl)
set_option maxHeartbeats 4000000 in
set_option maxRecDepth 100000 in
/-- throat, the first call -/
theorem law_8 {p : Program} {l : Launch} {e : Env} {s : State} {m : MethodId} {below : List Frame} {meth : Method} {c : Code} {A : Nat → Prop} {kA vA : Nat → Nat} {dC : Nat → ClassId} {dI : Nat → Nat → Nat} {b : Nat} {xs : Nat → Int32} {xo : Nat} {mo : Nat} {xq1 : Nat} {xq3 : Nat} {xq7 : Nat} {xq12 : Nat} {xq14 : Nat} {xq24 : Nat} {xq34 : Nat} {xq36 : Nat} {xq38 : Nat} {xq48 : Nat} {xq51 : Nat} {xq53 : Nat} {xq55 : Nat} {xq57 : Nat} {xq59 : Nat} {xq16 : Nat} {xq17 : Nat} {xq18 : Nat} {xq19 : Nat} {mq1 : Nat} {mq3 : Nat} {mq5 : Nat} {mq7 : Nat} {mq9 : Nat} {mq11 : Nat} {mq13 : Nat} {mq15 : Nat} {mq17 : Nat} {mq19 : Nat} {mq21 : Nat} {mq23 : Nat} {mq25 : Nat} {mq27 : Nat} {mq29 : Nat} {mq31 : Nat} {mq33 : Nat} {mq35 : Nat} {mq37 : Nat} {mq39 : Nat} {mq41 : Nat} {mk20 : ClassId} (C0 : lw_At p s m meth c b 6 xs) (hA : ∀ q : Nat, s.heap.size ≤ q → A q) (hAq : ∀ q : Nat, A q → s.heap.size ≤ q) (hE : xE s) (hT : xT kA vA A s s.heap) (hK : va_K (dC, dI) classes [(mk20, .int)] s) {H : Heap} {locs : List Loc} (hP : va_P (dC, dI) classes [(xo, .inr (11, [.ref xq1, .int 0, .ref xq3, .ref xq7, .ref xq12, .int 0, .int (-1), .ref xq14, .ref xq24, .ref xq34, .ref xq36, .ref xq38, .ref xq48, .ref xq51, .ref xq53, .ref xq55, .ref xq57, .ref xq59, .int 0])), (xq14, .inr (1, [.int 0, .int 0, .int 0, .ref xq16, .ref xq17, .ref xq18, .ref xq19])), (mo, .inr (12, [.ref mq1, .int 0, .int 0, .ref mq3, .ref mq5, .ref mq7, .ref mq9, .ref mq11, .int 0, .int 0, .int 0, .int 0, .int 0, .int 0, .int 0, .ref mq13, .int 0, .ref mq15, .int 0, .ref mq17, .ref mq19, .int (-1), .int 0, .int 0, .int 0, .int 0, .int 0, .ref mq21, .int 0, .ref mq23, .ref mq25, .ref mq27, .int 0, .int 0, .int 0, .ref mq29, .ref mq31, .ref mq33, .long 0, .ref mq35, .ref mq37, .ref mq39, .ref mq41])), (mq19, .inl (mk20, 100, .inl (fun _ => 0)))] H) (hD : va_D A [(xo, .inr (11, [.ref xq1, .int 0, .ref xq3, .ref xq7, .ref xq12, .int 0, .int (-1), .ref xq14, .ref xq24, .ref xq34, .ref xq36, .ref xq38, .ref xq48, .ref xq51, .ref xq53, .ref xq55, .ref xq57, .ref xq59, .int 0])), (xq14, .inr (1, [.int 0, .int 0, .int 0, .ref xq16, .ref xq17, .ref xq18, .ref xq19])), (mo, .inr (12, [.ref mq1, .int 0, .int 0, .ref mq3, .ref mq5, .ref mq7, .ref mq9, .ref mq11, .int 0, .int 0, .int 0, .int 0, .int 0, .int 0, .int 0, .ref mq13, .int 0, .ref mq15, .int 0, .ref mq17, .ref mq19, .int (-1), .int 0, .int 0, .int 0, .int 0, .int 0, .ref mq21, .int 0, .ref mq23, .ref mq25, .ref mq27, .int 0, .int 0, .int 0, .ref mq29, .ref mq31, .ref mq33, .long 0, .ref mq35, .ref mq37, .ref mq39, .ref mq41])), (mq19, .inl (mk20, 100, .inl (fun _ => 0)))]) (hS : va_S A s.heap H locs) {ls : Array Slot} (hl : lv_has ls 4 [(3, .int 0), (2, .ref mo), (1, .ref xo), (0, .ref b)]) : W p l e room_1 s m #[Value.ref b] below meth c H locs 152 8829 (lw_Z below #[Value.ref b] s) (F0 m 416 ls []) := by
  obtain ⟨hx, hb, hr, hml, hown, hts, hX, hbl, hlocks, hgv⟩ := id C0
  have hown : s.vm.findClass RL = some m.cls := hown
  have hq : ∀ w ∈ wsA, w.before _ s = true := fun w h => hts w (List.mem_filter.mp h).1
  have hbA : ¬ A b := fun h => Nat.not_le.mpr hbl (hAq b h)
  obtain ⟨z1, ez1⟩ : ∃ z : Int32, z = xs 1 := ⟨_, rfl⟩
  refine lv_aload_n hx hb dL_law_416 rfl (lv_at hl 2 rfl) ?_
  refine lv_aload_n hx hb dL_law_417 rfl (lv_at hl 3 rfl) ?_
  refine lv_iload_n hx hb dL_law_418 rfl (lv_at hl 0 rfl) ?_
  refine lv_iconst (v := 1) hx hb dL_law_419 (by decide) ?_
  refine lv_iadd hx hb dL_law_420 ?_
  refine lv_topi (fun y_1 ey_1 => ?_)
  obtain rfl : y_1 = 1 := ey_1.trans (by decide)
  refine va_sld hx hb hX hbl hbA hS (inr_ok rfl) dL_law_421 ?_
  refine W.eq (g2 := F0 m 422 ls [.int z1, .ref xo]) (by rw [ez1]; rfl) ?_
  have hPc := hP.sub (ws' := [(xo, .inr (11, [.ref xq1, .int 0, .ref xq3, .ref xq7, .ref xq12, .int 0, .int (-1), .ref xq14, .ref xq24, .ref xq34, .ref xq36, .ref xq38, .ref xq48, .ref xq51, .ref xq53, .ref xq55, .ref xq57, .ref xq59, .int 0])), (xq14, .inr (1, [.int 0, .int 0, .int 0, .ref xq16, .ref xq17, .ref xq18, .ref xq19]))]) [0, 1] rfl
  have hDc := hD.sub (ws' := [(xo, .inr (11, [.ref xq1, .int 0, .ref xq3, .ref xq7, .ref xq12, .int 0, .int (-1), .ref xq14, .ref xq24, .ref xq34, .ref xq36, .ref xq38, .ref xq48, .ref xq51, .ref xq53, .ref xq55, .ref xq57, .ref xq59, .int 0])), (xq14, .inr (1, [.int 0, .int 0, .int 0, .ref xq16, .ref xq17, .ref xq18, .ref xq19]))]) [0, 1] (by decide) rfl
  have hKc := hK.sub (tys' := []) [] rfl
  have hFc := va_free (wc := [(xo, .inr (11, [.ref xq1, .int 0, .ref xq3, .ref xq7, .ref xq12, .int 0, .int (-1), .ref xq14, .ref xq24, .ref xq34, .ref xq36, .ref xq38, .ref xq48, .ref xq51, .ref xq53, .ref xq55, .ref xq57, .ref xq59, .int 0])), (xq14, .inr (1, [.int 0, .int 0, .int 0, .ref xq16, .ref xq17, .ref xq18, .ref xq19]))]) hD hS hA [0, 1] rfl
  refine va_calli (va_runV (As := [.int z1]) (rest := []) ⟨hx, hb, hml, hown, hq⟩ (c_SB_throat l dC dI _ xo xq1 xq3 xq7 xq12 xq14 xq24 xq34 xq36 xq38 xq48 xq51 xq53 xq55 xq57 xq59 xq16 xq17 xq18 xq19 z1 ) (cwV 1 hq (gV qw_785 qw_786 qw_787 qw_119 qw_788) rfl rfl rfl (by decide +kernel) ⟨Nat.le_of_ble_eq_true rfl, Nat.le_of_ble_eq_true rfl⟩) ⟨fun a U g mk q => by obtain ⟨q0, q1, qP, qK, qD, qE⟩ := q; exact ⟨q0, q1, qP, va_K.moved (u := U) (U := U.calling g mk a) (Vm.Alike.refl U.vm) qK, qD, xE.same rfl qE⟩, va_recv hKc hPc (ci := 11) (q0 := 0) rfl rfl, fun U hU hW => ⟨rfl, by rw [hU], by rw [hU]; exact hPc, va_K.moved hW.alike hKc, hDc.weaken (fun _ _ _ _ => trivial), xE.warm hW hE⟩⟩ rfl rfl hl.1 rfl (lv_room (Nat.le_of_ble_eq_true rfl)) dL_law_422 ⟨Nat.le_of_ble_eq_true rfl, Nat.le_of_ble_eq_true rfl⟩) hS (fun q _ h => hFc q h) hFc (fun r_2 u t H1 locs ht hvm hw hB hz1 hk1 hS => ?_)
  have hP1 : va_P (dC, dI) classes [] H1 := vP_nil
  have hD1 : va_D (va_A [(xo, .inr (11, [.ref xq1, .int 0, .ref xq3, .ref xq7, .ref xq12, .int 0, .int (-1), .ref xq14, .ref xq24, .ref xq34, .ref xq36, .ref xq38, .ref xq48, .ref xq51, .ref xq53, .ref xq55, .ref xq57, .ref xq59, .int 0])), (xq14, .inr (1, [.int 0, .int 0, .int 0, .ref xq16, .ref xq17, .ref xq18, .ref xq19]))] H.size) [] := vD_nil
  obtain ⟨hP, hD⟩ := va_join (wr := [(mo, .inr (12, [.ref mq1, .int 0, .int 0, .ref mq3, .ref mq5, .ref mq7, .ref mq9, .ref mq11, .int 0, .int 0, .int 0, .int 0, .int 0, .int 0, .int 0, .ref mq13, .int 0, .ref mq15, .int 0, .ref mq17, .ref mq19, .int (-1), .int 0, .int 0, .int 0, .int 0, .int 0, .ref mq21, .int 0, .ref mq23, .ref mq25, .ref mq27, .int 0, .int 0, .int 0, .ref mq29, .ref mq31, .ref mq33, .long 0, .ref mq35, .ref mq37, .ref mq39, .ref mq41])), (mq19, .inl (mk20, 100, .inl (fun _ => 0)))]) (w1 := []) hP hD [0, 1] [2, 3] rfl rfl (by decide) (by decide) hk1 hFc hP1 hD1
  generalize H1 = H at hP hS ⊢
  have hP : va_P (dC, dI) classes [(mo, .inr (12, [.ref mq1, .int 0, .int 0, .ref mq3, .ref mq5, .ref mq7, .ref mq9, .ref mq11, .int 0, .int 0, .int 0, .int 0, .int 0, .int 0, .int 0, .ref mq13, .int 0, .ref mq15, .int 0, .ref mq17, .ref mq19, .int (-1), .int 0, .int 0, .int 0, .int 0, .int 0, .ref mq21, .int 0, .ref mq23, .ref mq25, .ref mq27, .int 0, .int 0, .int 0, .ref mq29, .ref mq31, .ref mq33, .long 0, .ref mq35, .ref mq37, .ref mq39, .ref mq41])), (mq19, .inl (mk20, 100, .inl (fun _ => 0)))] H := hP
  have hD : va_D A [(mo, .inr (12, [.ref mq1, .int 0, .int 0, .ref mq3, .ref mq5, .ref mq7, .ref mq9, .ref mq11, .int 0, .int 0, .int 0, .int 0, .int 0, .int 0, .int 0, .ref mq13, .int 0, .ref mq15, .int 0, .ref mq17, .ref mq19, .int (-1), .int 0, .int 0, .int 0, .int 0, .int 0, .ref mq21, .int 0, .ref mq23, .ref mq25, .ref mq27, .int 0, .int 0, .int 0, .ref mq29, .ref mq31, .ref mq33, .long 0, .ref mq35, .ref mq37, .ref mq39, .ref mq41])), (mq19, .inl (mk20, 100, .inl (fun _ => 0)))] := hD
  obtain rfl : r_2 = (-2) := hw
  refine lv_aload_n hx hb dL_law_425 rfl (lv_at hl 1 rfl) ?_
  refine lv_aload_n hx hb dL_law_426 rfl (lv_at hl 3 rfl) ?_
  refine lv_iload_n hx hb dL_law_427 rfl (lv_at hl 0 rfl) ?_
  refine lv_iconst (v := 1) hx hb dL_law_428 (by decide) ?_
  refine lv_iadd hx hb dL_law_429 ?_
  refine lv_topi (fun y_3 ey_3 => ?_)
  obtain rfl : y_3 = 1 := ey_3.trans (by decide)
  refine va_sld hx hb hX hbl hbA hS (inr_ok rfl) dL_law_430 ?_
  refine W.eq (g2 := F0 m 431 ls [.int z1, .ref mo, .int (-2)]) (by rw [ez1]; rfl) ?_
  have hPc := hP.sub (ws' := [(mo, .inr (12, [.ref mq1, .int 0, .int 0, .ref mq3, .ref mq5, .ref mq7, .ref mq9, .ref mq11, .int 0, .int 0, .int 0, .int 0, .int 0, .int 0, .int 0, .ref mq13, .int 0, .ref mq15, .int 0, .ref mq17, .ref mq19, .int (-1), .int 0, .int 0, .int 0, .int 0, .int 0, .ref mq21, .int 0, .ref mq23, .ref mq25, .ref mq27, .int 0, .int 0, .int 0, .ref mq29, .ref mq31, .ref mq33, .long 0, .ref mq35, .ref mq37, .ref mq39, .ref mq41])), (mq19, .inl (mk20, 100, .inl (fun _ => 0)))]) [0, 1] rfl
  have hDc := hD.sub (ws' := [(mo, .inr (12, [.ref mq1, .int 0, .int 0, .ref mq3, .ref mq5, .ref mq7, .ref mq9, .ref mq11, .int 0, .int 0, .int 0, .int 0, .int 0, .int 0, .int 0, .ref mq13, .int 0, .ref mq15, .int 0, .ref mq17, .ref mq19, .int (-1), .int 0, .int 0, .int 0, .int 0, .int 0, .ref mq21, .int 0, .ref mq23, .ref mq25, .ref mq27, .int 0, .int 0, .int 0, .ref mq29, .ref mq31, .ref mq33, .long 0, .ref mq35, .ref mq37, .ref mq39, .ref mq41])), (mq19, .inl (mk20, 100, .inl (fun _ => 0)))]) [0, 1] (by decide) rfl
  have hKc := hK.sub (tys' := [(mk20, .int)]) [0] rfl
  have hFc := va_free (wc := [(mo, .inr (12, [.ref mq1, .int 0, .int 0, .ref mq3, .ref mq5, .ref mq7, .ref mq9, .ref mq11, .int 0, .int 0, .int 0, .int 0, .int 0, .int 0, .int 0, .ref mq13, .int 0, .ref mq15, .int 0, .ref mq17, .ref mq19, .int (-1), .int 0, .int 0, .int 0, .int 0, .int 0, .ref mq21, .int 0, .ref mq23, .ref mq25, .ref mq27, .int 0, .int 0, .int 0, .ref mq29, .ref mq31, .ref mq33, .long 0, .ref mq35, .ref mq37, .ref mq39, .ref mq41])), (mq19, .inl (mk20, 100, .inl (fun _ => 0)))]) hD hS hA [0, 1] rfl
  refine va_calli (va_runV (As := [.int z1]) (rest := [.int (-2)]) ⟨hx, hb, hml, hown, hq⟩ (c_M_throat l dC dI _ mo mq1 mq3 mq5 mq7 mq9 mq11 mq13 mq15 mq17 mq19 mq21 mq23 mq25 mq27 mq29 mq31 mq33 mq35 mq37 mq39 mq41 mk20 z1 ) (cwV 1 hq (gV qw_1502 qw_1503 qw_1504 qw_131 qw_1505) rfl rfl rfl (by decide +kernel) ⟨Nat.le_of_ble_eq_true rfl, Nat.le_of_ble_eq_true rfl⟩) ⟨fun a U g mk q => by obtain ⟨q0, q1, qP, qK, qD, qE⟩ := q; exact ⟨q0, q1, qP, va_K.moved (u := U) (U := U.calling g mk a) (Vm.Alike.refl U.vm) qK, qD, xE.same rfl qE⟩, va_recv hKc hPc (ci := 12) (q0 := 0) rfl rfl, fun U hU hW => ⟨rfl, by rw [hU], by rw [hU]; exact hPc, va_K.moved hW.alike hKc, hDc.weaken (fun _ _ _ _ => trivial), xE.warm hW hE⟩⟩ rfl rfl hl.1 rfl (lv_room (Nat.le_of_ble_eq_true rfl)) dL_law_431 ⟨Nat.le_of_ble_eq_true rfl, Nat.le_of_ble_eq_true rfl⟩) hS (fun q _ h => hFc q h) hFc (fun r_4 u t H1 locs ht hvm hw hB hz1 hk1 hS => ?_)
  have hP1 : va_P (dC, dI) classes [] H1 := vP_nil
  have hD1 : va_D (va_A [(mo, .inr (12, [.ref mq1, .int 0, .int 0, .ref mq3, .ref mq5, .ref mq7, .ref mq9, .ref mq11, .int 0, .int 0, .int 0, .int 0, .int 0, .int 0, .int 0, .ref mq13, .int 0, .ref mq15, .int 0, .ref mq17, .ref mq19, .int (-1), .int 0, .int 0, .int 0, .int 0, .int 0, .ref mq21, .int 0, .ref mq23, .ref mq25, .ref mq27, .int 0, .int 0, .int 0, .ref mq29, .ref mq31, .ref mq33, .long 0, .ref mq35, .ref mq37, .ref mq39, .ref mq41])), (mq19, .inl (mk20, 100, .inl (fun _ => 0)))] H.size) [] := vD_nil
  obtain ⟨hP, hD⟩ := va_join (wr := []) (w1 := []) hP hD [0, 1] [] rfl rfl (by decide) (by decide) hk1 hFc hP1 hD1
  generalize H1 = H at hP hS ⊢
  have hP : va_P (dC, dI) classes [] H := hP
  have hD : va_D A [] := hD
  obtain rfl : r_4 = (-2) := hw
  refine lv_icmp_eq (tgt := 1210) hx hb dL_law_434 (by decide) (fun _ => ?_) (fun c9 => absurd c9 (by decide))
  exact law_end C0 hAq hS (lv_sub hl [0, 1, 2, 3] rfl)
set_option maxHeartbeats 4000000 in
set_option maxRecDepth 100000 in
/-- minute, the first call -/
theorem law_9 {p : Program} {l : Launch} {e : Env} {s : State} {m : MethodId} {below : List Frame} {meth : Method} {c : Code} {A : Nat → Prop} {kA vA : Nat → Nat} {dC : Nat → ClassId} {dI : Nat → Nat → Nat} {b : Nat} {xs : Nat → Int32} {xo : Nat} {mo : Nat} {xq1 : Nat} {xq3 : Nat} {xq7 : Nat} {xq12 : Nat} {xq14 : Nat} {xq24 : Nat} {xq34 : Nat} {xq36 : Nat} {xq38 : Nat} {xq48 : Nat} {xq51 : Nat} {xq53 : Nat} {xq55 : Nat} {xq57 : Nat} {xq59 : Nat} {xq16 : Nat} {xq17 : Nat} {xq18 : Nat} {xq19 : Nat} {mq1 : Nat} {mq3 : Nat} {mq5 : Nat} {mq7 : Nat} {mq9 : Nat} {mq11 : Nat} {mq13 : Nat} {mq15 : Nat} {mq17 : Nat} {mq19 : Nat} {mq21 : Nat} {mq23 : Nat} {mq25 : Nat} {mq27 : Nat} {mq29 : Nat} {mq31 : Nat} {mq33 : Nat} {mq35 : Nat} {mq37 : Nat} {mq39 : Nat} {mq41 : Nat} {mk20 : ClassId} (C0 : lw_At p s m meth c b 6 xs) (hA : ∀ q : Nat, s.heap.size ≤ q → A q) (hAq : ∀ q : Nat, A q → s.heap.size ≤ q) (hE : xE s) (hT : xT kA vA A s s.heap) (hK : va_K (dC, dI) classes [(mk20, .int)] s) {H : Heap} {locs : List Loc} (hP : va_P (dC, dI) classes [(xo, .inr (11, [.ref xq1, .int 0, .ref xq3, .ref xq7, .ref xq12, .int 0, .int (-1), .ref xq14, .ref xq24, .ref xq34, .ref xq36, .ref xq38, .ref xq48, .ref xq51, .ref xq53, .ref xq55, .ref xq57, .ref xq59, .int 0])), (xq14, .inr (1, [.int 0, .int 0, .int 0, .ref xq16, .ref xq17, .ref xq18, .ref xq19])), (mo, .inr (12, [.ref mq1, .int 0, .int 0, .ref mq3, .ref mq5, .ref mq7, .ref mq9, .ref mq11, .int 0, .int 0, .int 0, .int 0, .int 0, .int 0, .int 0, .ref mq13, .int 0, .ref mq15, .int 0, .ref mq17, .ref mq19, .int (-1), .int 0, .int 0, .int 0, .int 0, .int 0, .ref mq21, .int 0, .ref mq23, .ref mq25, .ref mq27, .int 0, .int 0, .int 0, .ref mq29, .ref mq31, .ref mq33, .long 0, .ref mq35, .ref mq37, .ref mq39, .ref mq41])), (mq19, .inl (mk20, 100, .inl (fun _ => 0)))] H) (hD : va_D A [(xo, .inr (11, [.ref xq1, .int 0, .ref xq3, .ref xq7, .ref xq12, .int 0, .int (-1), .ref xq14, .ref xq24, .ref xq34, .ref xq36, .ref xq38, .ref xq48, .ref xq51, .ref xq53, .ref xq55, .ref xq57, .ref xq59, .int 0])), (xq14, .inr (1, [.int 0, .int 0, .int 0, .ref xq16, .ref xq17, .ref xq18, .ref xq19])), (mo, .inr (12, [.ref mq1, .int 0, .int 0, .ref mq3, .ref mq5, .ref mq7, .ref mq9, .ref mq11, .int 0, .int 0, .int 0, .int 0, .int 0, .int 0, .int 0, .ref mq13, .int 0, .ref mq15, .int 0, .ref mq17, .ref mq19, .int (-1), .int 0, .int 0, .int 0, .int 0, .int 0, .ref mq21, .int 0, .ref mq23, .ref mq25, .ref mq27, .int 0, .int 0, .int 0, .ref mq29, .ref mq31, .ref mq33, .long 0, .ref mq35, .ref mq37, .ref mq39, .ref mq41])), (mq19, .inl (mk20, 100, .inl (fun _ => 0)))]) (hS : va_S A s.heap H locs) {ls : Array Slot} (hl : lv_has ls 4 [(3, .int 0), (2, .ref mo), (1, .ref xo), (0, .ref b)]) : W p l e room_1 s m #[Value.ref b] below meth c H locs 152 8829 (lw_Z below #[Value.ref b] s) (F0 m 439 ls []) := by
  obtain ⟨hx, hb, hr, hml, hown, hts, hX, hbl, hlocks, hgv⟩ := id C0
  have hown : s.vm.findClass RL = some m.cls := hown
  have hq : ∀ w ∈ wsA, w.before _ s = true := fun w h => hts w (List.mem_filter.mp h).1
  have hbA : ¬ A b := fun h => Nat.not_le.mpr hbl (hAq b h)
  refine lv_aload_n hx hb dL_law_439 rfl (lv_at hl 2 rfl) ?_
  have hPc := hP.sub (ws' := [(xo, .inr (11, [.ref xq1, .int 0, .ref xq3, .ref xq7, .ref xq12, .int 0, .int (-1), .ref xq14, .ref xq24, .ref xq34, .ref xq36, .ref xq38, .ref xq48, .ref xq51, .ref xq53, .ref xq55, .ref xq57, .ref xq59, .int 0])), (xq14, .inr (1, [.int 0, .int 0, .int 0, .ref xq16, .ref xq17, .ref xq18, .ref xq19]))]) [0, 1] rfl
  have hDc := hD.sub (ws' := [(xo, .inr (11, [.ref xq1, .int 0, .ref xq3, .ref xq7, .ref xq12, .int 0, .int (-1), .ref xq14, .ref xq24, .ref xq34, .ref xq36, .ref xq38, .ref xq48, .ref xq51, .ref xq53, .ref xq55, .ref xq57, .ref xq59, .int 0])), (xq14, .inr (1, [.int 0, .int 0, .int 0, .ref xq16, .ref xq17, .ref xq18, .ref xq19]))]) [0, 1] (by decide) rfl
  have hKc := hK.sub (tys' := []) [] rfl
  have hFc := va_free (wc := [(xo, .inr (11, [.ref xq1, .int 0, .ref xq3, .ref xq7, .ref xq12, .int 0, .int (-1), .ref xq14, .ref xq24, .ref xq34, .ref xq36, .ref xq38, .ref xq48, .ref xq51, .ref xq53, .ref xq55, .ref xq57, .ref xq59, .int 0])), (xq14, .inr (1, [.int 0, .int 0, .int 0, .ref xq16, .ref xq17, .ref xq18, .ref xq19]))]) hD hS hA [0, 1] rfl
  refine va_calli (va_runV (As := []) (rest := []) ⟨hx, hb, hml, hown, hq⟩ (c_SB_minute l dC dI _ xo xq1 xq3 xq7 xq12 xq14 xq24 xq34 xq36 xq38 xq48 xq51 xq53 xq55 xq57 xq59 xq16 xq17 xq18 xq19 ) (cwV 0 hq (gV qw_790 qw_791 qw_792 qw_119 qw_793) rfl rfl rfl (by decide +kernel) ⟨Nat.le_of_ble_eq_true rfl, Nat.le_of_ble_eq_true rfl⟩) ⟨fun a U g mk q => by obtain ⟨q0, q1, qP, qK, qD, qE⟩ := q; exact ⟨q0, q1, qP, va_K.moved (u := U) (U := U.calling g mk a) (Vm.Alike.refl U.vm) qK, qD, xE.same rfl qE⟩, va_recv hKc hPc (ci := 11) (q0 := 0) rfl rfl, fun U hU hW => ⟨rfl, by rw [hU], by rw [hU]; exact hPc, va_K.moved hW.alike hKc, hDc.weaken (fun _ _ _ _ => trivial), xE.warm hW hE⟩⟩ rfl rfl hl.1 rfl (lv_room (Nat.le_of_ble_eq_true rfl)) dL_law_440 ⟨Nat.le_of_ble_eq_true rfl, Nat.le_of_ble_eq_true rfl⟩) hS (fun q _ h => hFc q h) hFc (fun r_1 u t H1 locs ht hvm hw hB hz1 hk1 hS => ?_)
  have hP1 : va_P (dC, dI) classes [] H1 := vP_nil
  have hD1 : va_D (va_A [(xo, .inr (11, [.ref xq1, .int 0, .ref xq3, .ref xq7, .ref xq12, .int 0, .int (-1), .ref xq14, .ref xq24, .ref xq34, .ref xq36, .ref xq38, .ref xq48, .ref xq51, .ref xq53, .ref xq55, .ref xq57, .ref xq59, .int 0])), (xq14, .inr (1, [.int 0, .int 0, .int 0, .ref xq16, .ref xq17, .ref xq18, .ref xq19]))] H.size) [] := vD_nil
  obtain ⟨hP, hD⟩ := va_join (wr := [(mo, .inr (12, [.ref mq1, .int 0, .int 0, .ref mq3, .ref mq5, .ref mq7, .ref mq9, .ref mq11, .int 0, .int 0, .int 0, .int 0, .int 0, .int 0, .int 0, .ref mq13, .int 0, .ref mq15, .int 0, .ref mq17, .ref mq19, .int (-1), .int 0, .int 0, .int 0, .int 0, .int 0, .ref mq21, .int 0, .ref mq23, .ref mq25, .ref mq27, .int 0, .int 0, .int 0, .ref mq29, .ref mq31, .ref mq33, .long 0, .ref mq35, .ref mq37, .ref mq39, .ref mq41])), (mq19, .inl (mk20, 100, .inl (fun _ => 0)))]) (w1 := []) hP hD [0, 1] [2, 3] rfl rfl (by decide) (by decide) hk1 hFc hP1 hD1
  generalize H1 = H at hP hS ⊢
  have hP : va_P (dC, dI) classes [(mo, .inr (12, [.ref mq1, .int 0, .int 0, .ref mq3, .ref mq5, .ref mq7, .ref mq9, .ref mq11, .int 0, .int 0, .int 0, .int 0, .int 0, .int 0, .int 0, .ref mq13, .int 0, .ref mq15, .int 0, .ref mq17, .ref mq19, .int (-1), .int 0, .int 0, .int 0, .int 0, .int 0, .ref mq21, .int 0, .ref mq23, .ref mq25, .ref mq27, .int 0, .int 0, .int 0, .ref mq29, .ref mq31, .ref mq33, .long 0, .ref mq35, .ref mq37, .ref mq39, .ref mq41])), (mq19, .inl (mk20, 100, .inl (fun _ => 0)))] H := hP
  have hD : va_D A [(mo, .inr (12, [.ref mq1, .int 0, .int 0, .ref mq3, .ref mq5, .ref mq7, .ref mq9, .ref mq11, .int 0, .int 0, .int 0, .int 0, .int 0, .int 0, .int 0, .ref mq13, .int 0, .ref mq15, .int 0, .ref mq17, .ref mq19, .int (-1), .int 0, .int 0, .int 0, .int 0, .int 0, .ref mq21, .int 0, .ref mq23, .ref mq25, .ref mq27, .int 0, .int 0, .int 0, .ref mq29, .ref mq31, .ref mq33, .long 0, .ref mq35, .ref mq37, .ref mq39, .ref mq41])), (mq19, .inl (mk20, 100, .inl (fun _ => 0)))] := hD
  obtain rfl : r_1 = (-1) := hw
  refine lv_aload_n hx hb dL_law_443 rfl (lv_at hl 1 rfl) ?_
  have hPc := hP.sub (ws' := [(mo, .inr (12, [.ref mq1, .int 0, .int 0, .ref mq3, .ref mq5, .ref mq7, .ref mq9, .ref mq11, .int 0, .int 0, .int 0, .int 0, .int 0, .int 0, .int 0, .ref mq13, .int 0, .ref mq15, .int 0, .ref mq17, .ref mq19, .int (-1), .int 0, .int 0, .int 0, .int 0, .int 0, .ref mq21, .int 0, .ref mq23, .ref mq25, .ref mq27, .int 0, .int 0, .int 0, .ref mq29, .ref mq31, .ref mq33, .long 0, .ref mq35, .ref mq37, .ref mq39, .ref mq41])), (mq19, .inl (mk20, 100, .inl (fun _ => 0)))]) [0, 1] rfl
  have hDc := hD.sub (ws' := [(mo, .inr (12, [.ref mq1, .int 0, .int 0, .ref mq3, .ref mq5, .ref mq7, .ref mq9, .ref mq11, .int 0, .int 0, .int 0, .int 0, .int 0, .int 0, .int 0, .ref mq13, .int 0, .ref mq15, .int 0, .ref mq17, .ref mq19, .int (-1), .int 0, .int 0, .int 0, .int 0, .int 0, .ref mq21, .int 0, .ref mq23, .ref mq25, .ref mq27, .int 0, .int 0, .int 0, .ref mq29, .ref mq31, .ref mq33, .long 0, .ref mq35, .ref mq37, .ref mq39, .ref mq41])), (mq19, .inl (mk20, 100, .inl (fun _ => 0)))]) [0, 1] (by decide) rfl
  have hKc := hK.sub (tys' := [(mk20, .int)]) [0] rfl
  have hFc := va_free (wc := [(mo, .inr (12, [.ref mq1, .int 0, .int 0, .ref mq3, .ref mq5, .ref mq7, .ref mq9, .ref mq11, .int 0, .int 0, .int 0, .int 0, .int 0, .int 0, .int 0, .ref mq13, .int 0, .ref mq15, .int 0, .ref mq17, .ref mq19, .int (-1), .int 0, .int 0, .int 0, .int 0, .int 0, .ref mq21, .int 0, .ref mq23, .ref mq25, .ref mq27, .int 0, .int 0, .int 0, .ref mq29, .ref mq31, .ref mq33, .long 0, .ref mq35, .ref mq37, .ref mq39, .ref mq41])), (mq19, .inl (mk20, 100, .inl (fun _ => 0)))]) hD hS hA [0, 1] rfl
  refine va_calli (va_runV (As := []) (rest := [.int (-1)]) ⟨hx, hb, hml, hown, hq⟩ (c_M_minute l dC dI _ mo mq1 mq3 mq5 mq7 mq9 mq11 mq13 mq15 mq17 mq19 mq21 mq23 mq25 mq27 mq29 mq31 mq33 mq35 mq37 mq39 mq41 mk20 ) (cwV 0 hq (gV qw_1514 qw_1515 qw_1516 qw_131 qw_1517) rfl rfl rfl (by decide +kernel) ⟨Nat.le_of_ble_eq_true rfl, Nat.le_of_ble_eq_true rfl⟩) ⟨fun a U g mk q => by obtain ⟨q0, q1, qP, qK, qD, qE⟩ := q; exact ⟨q0, q1, qP, va_K.moved (u := U) (U := U.calling g mk a) (Vm.Alike.refl U.vm) qK, qD, xE.same rfl qE⟩, va_recv hKc hPc (ci := 12) (q0 := 0) rfl rfl, fun U hU hW => ⟨rfl, by rw [hU], by rw [hU]; exact hPc, va_K.moved hW.alike hKc, hDc.weaken (fun _ _ _ _ => trivial), xE.warm hW hE⟩⟩ rfl rfl hl.1 rfl (lv_room (Nat.le_of_ble_eq_true rfl)) dL_law_444 ⟨Nat.le_of_ble_eq_true rfl, Nat.le_of_ble_eq_true rfl⟩) hS (fun q _ h => hFc q h) hFc (fun r_2 u t H1 locs ht hvm hw hB hz1 hk1 hS => ?_)
  have hP1 : va_P (dC, dI) classes [] H1 := vP_nil
  have hD1 : va_D (va_A [(mo, .inr (12, [.ref mq1, .int 0, .int 0, .ref mq3, .ref mq5, .ref mq7, .ref mq9, .ref mq11, .int 0, .int 0, .int 0, .int 0, .int 0, .int 0, .int 0, .ref mq13, .int 0, .ref mq15, .int 0, .ref mq17, .ref mq19, .int (-1), .int 0, .int 0, .int 0, .int 0, .int 0, .ref mq21, .int 0, .ref mq23, .ref mq25, .ref mq27, .int 0, .int 0, .int 0, .ref mq29, .ref mq31, .ref mq33, .long 0, .ref mq35, .ref mq37, .ref mq39, .ref mq41])), (mq19, .inl (mk20, 100, .inl (fun _ => 0)))] H.size) [] := vD_nil
  obtain ⟨hP, hD⟩ := va_join (wr := []) (w1 := []) hP hD [0, 1] [] rfl rfl (by decide) (by decide) hk1 hFc hP1 hD1
  generalize H1 = H at hP hS ⊢
  have hP : va_P (dC, dI) classes [] H := hP
  have hD : va_D A [] := hD
  obtain rfl : r_2 = (-1) := hw
  refine lv_icmp_eq (tgt := 1210) hx hb dL_law_447 (by decide) (fun _ => ?_) (fun c9 => absurd c9 (by decide))
  exact law_end C0 hAq hS (lv_sub hl [0, 1, 2, 3] rfl)
set_option maxHeartbeats 4000000 in
set_option maxRecDepth 100000 in
/-- offer, the first call -/
theorem law_10 {p : Program} {l : Launch} {e : Env} {s : State} {m : MethodId} {below : List Frame} {meth : Method} {c : Code} {A : Nat → Prop} {kA vA : Nat → Nat} {dC : Nat → ClassId} {dI : Nat → Nat → Nat} {b : Nat} {xs : Nat → Int32} {xo : Nat} {mo : Nat} {xq1 : Nat} {xq3 : Nat} {xq7 : Nat} {xq12 : Nat} {xq14 : Nat} {xq24 : Nat} {xq34 : Nat} {xq36 : Nat} {xq38 : Nat} {xq48 : Nat} {xq51 : Nat} {xq53 : Nat} {xq55 : Nat} {xq57 : Nat} {xq59 : Nat} {xq16 : Nat} {xq17 : Nat} {xq18 : Nat} {xq19 : Nat} {mq1 : Nat} {mq3 : Nat} {mq5 : Nat} {mq7 : Nat} {mq9 : Nat} {mq11 : Nat} {mq13 : Nat} {mq15 : Nat} {mq17 : Nat} {mq19 : Nat} {mq21 : Nat} {mq23 : Nat} {mq25 : Nat} {mq27 : Nat} {mq29 : Nat} {mq31 : Nat} {mq33 : Nat} {mq35 : Nat} {mq37 : Nat} {mq39 : Nat} {mq41 : Nat} {mk20 : ClassId} (C0 : lw_At p s m meth c b 6 xs) (hA : ∀ q : Nat, s.heap.size ≤ q → A q) (hAq : ∀ q : Nat, A q → s.heap.size ≤ q) (hE : xE s) (hT : xT kA vA A s s.heap) (hK : va_K (dC, dI) classes [(mk20, .int)] s) {H : Heap} {locs : List Loc} (hP : va_P (dC, dI) classes [(xo, .inr (11, [.ref xq1, .int 0, .ref xq3, .ref xq7, .ref xq12, .int 0, .int (-1), .ref xq14, .ref xq24, .ref xq34, .ref xq36, .ref xq38, .ref xq48, .ref xq51, .ref xq53, .ref xq55, .ref xq57, .ref xq59, .int 0])), (xq14, .inr (1, [.int 0, .int 0, .int 0, .ref xq16, .ref xq17, .ref xq18, .ref xq19])), (mo, .inr (12, [.ref mq1, .int 0, .int 0, .ref mq3, .ref mq5, .ref mq7, .ref mq9, .ref mq11, .int 0, .int 0, .int 0, .int 0, .int 0, .int 0, .int 0, .ref mq13, .int 0, .ref mq15, .int 0, .ref mq17, .ref mq19, .int (-1), .int 0, .int 0, .int 0, .int 0, .int 0, .ref mq21, .int 0, .ref mq23, .ref mq25, .ref mq27, .int 0, .int 0, .int 0, .ref mq29, .ref mq31, .ref mq33, .long 0, .ref mq35, .ref mq37, .ref mq39, .ref mq41])), (mq19, .inl (mk20, 100, .inl (fun _ => 0)))] H) (hD : va_D A [(xo, .inr (11, [.ref xq1, .int 0, .ref xq3, .ref xq7, .ref xq12, .int 0, .int (-1), .ref xq14, .ref xq24, .ref xq34, .ref xq36, .ref xq38, .ref xq48, .ref xq51, .ref xq53, .ref xq55, .ref xq57, .ref xq59, .int 0])), (xq14, .inr (1, [.int 0, .int 0, .int 0, .ref xq16, .ref xq17, .ref xq18, .ref xq19])), (mo, .inr (12, [.ref mq1, .int 0, .int 0, .ref mq3, .ref mq5, .ref mq7, .ref mq9, .ref mq11, .int 0, .int 0, .int 0, .int 0, .int 0, .int 0, .int 0, .ref mq13, .int 0, .ref mq15, .int 0, .ref mq17, .ref mq19, .int (-1), .int 0, .int 0, .int 0, .int 0, .int 0, .ref mq21, .int 0, .ref mq23, .ref mq25, .ref mq27, .int 0, .int 0, .int 0, .ref mq29, .ref mq31, .ref mq33, .long 0, .ref mq35, .ref mq37, .ref mq39, .ref mq41])), (mq19, .inl (mk20, 100, .inl (fun _ => 0)))]) (hS : va_S A s.heap H locs) {ls : Array Slot} (hl : lv_has ls 4 [(3, .int 0), (2, .ref mo), (1, .ref xo), (0, .ref b)]) : W p l e room_1 s m #[Value.ref b] below meth c H locs 152 8829 (lw_Z below #[Value.ref b] s) (F0 m 452 ls []) := by
  obtain ⟨hx, hb, hr, hml, hown, hts, hX, hbl, hlocks, hgv⟩ := id C0
  have hown : s.vm.findClass RL = some m.cls := hown
  have hq : ∀ w ∈ wsA, w.before _ s = true := fun w h => hts w (List.mem_filter.mp h).1
  have hbA : ¬ A b := fun h => Nat.not_le.mpr hbl (hAq b h)
  obtain ⟨z1, ez1⟩ : ∃ z : Int32, z = xs 1 := ⟨_, rfl⟩
  refine lv_aload_n hx hb dL_law_452 rfl (lv_at hl 2 rfl) ?_
  refine lv_aload_n hx hb dL_law_453 rfl (lv_at hl 3 rfl) ?_
  refine lv_iload_n hx hb dL_law_454 rfl (lv_at hl 0 rfl) ?_
  refine lv_iconst (v := 1) hx hb dL_law_455 (by decide) ?_
  refine lv_iadd hx hb dL_law_456 ?_
  refine lv_topi (fun y_1 ey_1 => ?_)
  obtain rfl : y_1 = 1 := ey_1.trans (by decide)
  refine va_sld hx hb hX hbl hbA hS (inr_ok rfl) dL_law_457 ?_
  refine W.eq (g2 := F0 m 458 ls [.int z1, .ref xo]) (by rw [ez1]; rfl) ?_
  have hPc := hP.sub (ws' := [(xo, .inr (11, [.ref xq1, .int 0, .ref xq3, .ref xq7, .ref xq12, .int 0, .int (-1), .ref xq14, .ref xq24, .ref xq34, .ref xq36, .ref xq38, .ref xq48, .ref xq51, .ref xq53, .ref xq55, .ref xq57, .ref xq59, .int 0])), (xq14, .inr (1, [.int 0, .int 0, .int 0, .ref xq16, .ref xq17, .ref xq18, .ref xq19]))]) [0, 1] rfl
  have hDc := hD.sub (ws' := [(xo, .inr (11, [.ref xq1, .int 0, .ref xq3, .ref xq7, .ref xq12, .int 0, .int (-1), .ref xq14, .ref xq24, .ref xq34, .ref xq36, .ref xq38, .ref xq48, .ref xq51, .ref xq53, .ref xq55, .ref xq57, .ref xq59, .int 0])), (xq14, .inr (1, [.int 0, .int 0, .int 0, .ref xq16, .ref xq17, .ref xq18, .ref xq19]))]) [0, 1] (by decide) rfl
  have hKc := hK.sub (tys' := []) [] rfl
  have hFc := va_free (wc := [(xo, .inr (11, [.ref xq1, .int 0, .ref xq3, .ref xq7, .ref xq12, .int 0, .int (-1), .ref xq14, .ref xq24, .ref xq34, .ref xq36, .ref xq38, .ref xq48, .ref xq51, .ref xq53, .ref xq55, .ref xq57, .ref xq59, .int 0])), (xq14, .inr (1, [.int 0, .int 0, .int 0, .ref xq16, .ref xq17, .ref xq18, .ref xq19]))]) hD hS hA [0, 1] rfl
  refine va_calli (va_runV (As := [.int z1]) (rest := []) ⟨hx, hb, hml, hown, hq⟩ (c_SB_offer l dC dI _ xo xq1 xq3 xq7 xq12 xq14 xq24 xq34 xq36 xq38 xq48 xq51 xq53 xq55 xq57 xq59 xq16 xq17 xq18 xq19 z1 ) (cwV 1 hq (gV qw_890 qw_891 qw_892 qw_119 qw_893) rfl rfl rfl (by decide +kernel) ⟨Nat.le_of_ble_eq_true rfl, Nat.le_of_ble_eq_true rfl⟩) ⟨fun a U g mk q => by obtain ⟨q0, q1, qP, qK, qD, qE⟩ := q; exact ⟨q0, q1, qP, va_K.moved (u := U) (U := U.calling g mk a) (Vm.Alike.refl U.vm) qK, qD, xE.same rfl qE⟩, va_recv hKc hPc (ci := 11) (q0 := 0) rfl rfl, fun U hU hW => ⟨rfl, by rw [hU], by rw [hU]; exact hPc, va_K.moved hW.alike hKc, hDc.weaken (fun _ _ _ _ => trivial), xE.warm hW hE⟩⟩ rfl rfl hl.1 rfl (lv_room (Nat.le_of_ble_eq_true rfl)) dL_law_458 ⟨Nat.le_of_ble_eq_true rfl, Nat.le_of_ble_eq_true rfl⟩) hS (fun q _ h => hFc q h) hFc (fun r_2 u t H1 locs ht hvm hw hB hz1 hk1 hS => ?_)
  have hP1 : va_P (dC, dI) classes [] H1 := vP_nil
  have hD1 : va_D (va_A [(xo, .inr (11, [.ref xq1, .int 0, .ref xq3, .ref xq7, .ref xq12, .int 0, .int (-1), .ref xq14, .ref xq24, .ref xq34, .ref xq36, .ref xq38, .ref xq48, .ref xq51, .ref xq53, .ref xq55, .ref xq57, .ref xq59, .int 0])), (xq14, .inr (1, [.int 0, .int 0, .int 0, .ref xq16, .ref xq17, .ref xq18, .ref xq19]))] H.size) [] := vD_nil
  obtain ⟨hP, hD⟩ := va_join (wr := [(mo, .inr (12, [.ref mq1, .int 0, .int 0, .ref mq3, .ref mq5, .ref mq7, .ref mq9, .ref mq11, .int 0, .int 0, .int 0, .int 0, .int 0, .int 0, .int 0, .ref mq13, .int 0, .ref mq15, .int 0, .ref mq17, .ref mq19, .int (-1), .int 0, .int 0, .int 0, .int 0, .int 0, .ref mq21, .int 0, .ref mq23, .ref mq25, .ref mq27, .int 0, .int 0, .int 0, .ref mq29, .ref mq31, .ref mq33, .long 0, .ref mq35, .ref mq37, .ref mq39, .ref mq41])), (mq19, .inl (mk20, 100, .inl (fun _ => 0)))]) (w1 := []) hP hD [0, 1] [2, 3] rfl rfl (by decide) (by decide) hk1 hFc hP1 hD1
  generalize H1 = H at hP hS ⊢
  have hP : va_P (dC, dI) classes [(mo, .inr (12, [.ref mq1, .int 0, .int 0, .ref mq3, .ref mq5, .ref mq7, .ref mq9, .ref mq11, .int 0, .int 0, .int 0, .int 0, .int 0, .int 0, .int 0, .ref mq13, .int 0, .ref mq15, .int 0, .ref mq17, .ref mq19, .int (-1), .int 0, .int 0, .int 0, .int 0, .int 0, .ref mq21, .int 0, .ref mq23, .ref mq25, .ref mq27, .int 0, .int 0, .int 0, .ref mq29, .ref mq31, .ref mq33, .long 0, .ref mq35, .ref mq37, .ref mq39, .ref mq41])), (mq19, .inl (mk20, 100, .inl (fun _ => 0)))] H := hP
  have hD : va_D A [(mo, .inr (12, [.ref mq1, .int 0, .int 0, .ref mq3, .ref mq5, .ref mq7, .ref mq9, .ref mq11, .int 0, .int 0, .int 0, .int 0, .int 0, .int 0, .int 0, .ref mq13, .int 0, .ref mq15, .int 0, .ref mq17, .ref mq19, .int (-1), .int 0, .int 0, .int 0, .int 0, .int 0, .ref mq21, .int 0, .ref mq23, .ref mq25, .ref mq27, .int 0, .int 0, .int 0, .ref mq29, .ref mq31, .ref mq33, .long 0, .ref mq35, .ref mq37, .ref mq39, .ref mq41])), (mq19, .inl (mk20, 100, .inl (fun _ => 0)))] := hD
  obtain rfl : r_2 = (-2) := hw
  refine lv_aload_n hx hb dL_law_461 rfl (lv_at hl 1 rfl) ?_
  refine lv_aload_n hx hb dL_law_462 rfl (lv_at hl 3 rfl) ?_
  refine lv_iload_n hx hb dL_law_463 rfl (lv_at hl 0 rfl) ?_
  refine lv_iconst (v := 1) hx hb dL_law_464 (by decide) ?_
  refine lv_iadd hx hb dL_law_465 ?_
  refine lv_topi (fun y_3 ey_3 => ?_)
  obtain rfl : y_3 = 1 := ey_3.trans (by decide)
  refine va_sld hx hb hX hbl hbA hS (inr_ok rfl) dL_law_466 ?_
  refine W.eq (g2 := F0 m 467 ls [.int z1, .ref mo, .int (-2)]) (by rw [ez1]; rfl) ?_
  have hPc := hP.sub (ws' := [(mo, .inr (12, [.ref mq1, .int 0, .int 0, .ref mq3, .ref mq5, .ref mq7, .ref mq9, .ref mq11, .int 0, .int 0, .int 0, .int 0, .int 0, .int 0, .int 0, .ref mq13, .int 0, .ref mq15, .int 0, .ref mq17, .ref mq19, .int (-1), .int 0, .int 0, .int 0, .int 0, .int 0, .ref mq21, .int 0, .ref mq23, .ref mq25, .ref mq27, .int 0, .int 0, .int 0, .ref mq29, .ref mq31, .ref mq33, .long 0, .ref mq35, .ref mq37, .ref mq39, .ref mq41])), (mq19, .inl (mk20, 100, .inl (fun _ => 0)))]) [0, 1] rfl
  have hDc := hD.sub (ws' := [(mo, .inr (12, [.ref mq1, .int 0, .int 0, .ref mq3, .ref mq5, .ref mq7, .ref mq9, .ref mq11, .int 0, .int 0, .int 0, .int 0, .int 0, .int 0, .int 0, .ref mq13, .int 0, .ref mq15, .int 0, .ref mq17, .ref mq19, .int (-1), .int 0, .int 0, .int 0, .int 0, .int 0, .ref mq21, .int 0, .ref mq23, .ref mq25, .ref mq27, .int 0, .int 0, .int 0, .ref mq29, .ref mq31, .ref mq33, .long 0, .ref mq35, .ref mq37, .ref mq39, .ref mq41])), (mq19, .inl (mk20, 100, .inl (fun _ => 0)))]) [0, 1] (by decide) rfl
  have hKc := hK.sub (tys' := [(mk20, .int)]) [0] rfl
  have hFc := va_free (wc := [(mo, .inr (12, [.ref mq1, .int 0, .int 0, .ref mq3, .ref mq5, .ref mq7, .ref mq9, .ref mq11, .int 0, .int 0, .int 0, .int 0, .int 0, .int 0, .int 0, .ref mq13, .int 0, .ref mq15, .int 0, .ref mq17, .ref mq19, .int (-1), .int 0, .int 0, .int 0, .int 0, .int 0, .ref mq21, .int 0, .ref mq23, .ref mq25, .ref mq27, .int 0, .int 0, .int 0, .ref mq29, .ref mq31, .ref mq33, .long 0, .ref mq35, .ref mq37, .ref mq39, .ref mq41])), (mq19, .inl (mk20, 100, .inl (fun _ => 0)))]) hD hS hA [0, 1] rfl
  refine va_calli (va_runV (As := [.int z1]) (rest := [.int (-2)]) ⟨hx, hb, hml, hown, hq⟩ (c_M_offer l dC dI _ mo mq1 mq3 mq5 mq7 mq9 mq11 mq13 mq15 mq17 mq19 mq21 mq23 mq25 mq27 mq29 mq31 mq33 mq35 mq37 mq39 mq41 mk20 z1 ) (cwV 1 hq (gV qw_1599 qw_1600 qw_1601 qw_131 qw_1602) rfl rfl rfl (by decide +kernel) ⟨Nat.le_of_ble_eq_true rfl, Nat.le_of_ble_eq_true rfl⟩) ⟨fun a U g mk q => by obtain ⟨q0, q1, qP, qK, qD, qE⟩ := q; exact ⟨q0, q1, qP, va_K.moved (u := U) (U := U.calling g mk a) (Vm.Alike.refl U.vm) qK, qD, xE.same rfl qE⟩, va_recv hKc hPc (ci := 12) (q0 := 0) rfl rfl, fun U hU hW => ⟨rfl, by rw [hU], by rw [hU]; exact hPc, va_K.moved hW.alike hKc, hDc.weaken (fun _ _ _ _ => trivial), xE.warm hW hE⟩⟩ rfl rfl hl.1 rfl (lv_room (Nat.le_of_ble_eq_true rfl)) dL_law_467 ⟨Nat.le_of_ble_eq_true rfl, Nat.le_of_ble_eq_true rfl⟩) hS (fun q _ h => hFc q h) hFc (fun r_4 u t H1 locs ht hvm hw hB hz1 hk1 hS => ?_)
  have hP1 : va_P (dC, dI) classes [] H1 := vP_nil
  have hD1 : va_D (va_A [(mo, .inr (12, [.ref mq1, .int 0, .int 0, .ref mq3, .ref mq5, .ref mq7, .ref mq9, .ref mq11, .int 0, .int 0, .int 0, .int 0, .int 0, .int 0, .int 0, .ref mq13, .int 0, .ref mq15, .int 0, .ref mq17, .ref mq19, .int (-1), .int 0, .int 0, .int 0, .int 0, .int 0, .ref mq21, .int 0, .ref mq23, .ref mq25, .ref mq27, .int 0, .int 0, .int 0, .ref mq29, .ref mq31, .ref mq33, .long 0, .ref mq35, .ref mq37, .ref mq39, .ref mq41])), (mq19, .inl (mk20, 100, .inl (fun _ => 0)))] H.size) [] := vD_nil
  obtain ⟨hP, hD⟩ := va_join (wr := []) (w1 := []) hP hD [0, 1] [] rfl rfl (by decide) (by decide) hk1 hFc hP1 hD1
  generalize H1 = H at hP hS ⊢
  have hP : va_P (dC, dI) classes [] H := hP
  have hD : va_D A [] := hD
  obtain rfl : r_4 = (-2) := hw
  refine lv_icmp_eq (tgt := 1210) hx hb dL_law_470 (by decide) (fun _ => ?_) (fun c9 => absurd c9 (by decide))
  exact law_end C0 hAq hS (lv_sub hl [0, 1, 2, 3] rfl)
set_option maxHeartbeats 4000000 in
set_option maxRecDepth 100000 in
/-- serve, the first call -/
theorem law_11 {p : Program} {l : Launch} {e : Env} {s : State} {m : MethodId} {below : List Frame} {meth : Method} {c : Code} {A : Nat → Prop} {kA vA : Nat → Nat} {dC : Nat → ClassId} {dI : Nat → Nat → Nat} {b : Nat} {xs : Nat → Int32} {xo : Nat} {mo : Nat} {xq1 : Nat} {xq3 : Nat} {xq7 : Nat} {xq12 : Nat} {xq14 : Nat} {xq24 : Nat} {xq34 : Nat} {xq36 : Nat} {xq38 : Nat} {xq48 : Nat} {xq51 : Nat} {xq53 : Nat} {xq55 : Nat} {xq57 : Nat} {xq59 : Nat} {xq16 : Nat} {xq17 : Nat} {xq18 : Nat} {xq19 : Nat} {mq1 : Nat} {mq3 : Nat} {mq5 : Nat} {mq7 : Nat} {mq9 : Nat} {mq11 : Nat} {mq13 : Nat} {mq15 : Nat} {mq17 : Nat} {mq19 : Nat} {mq21 : Nat} {mq23 : Nat} {mq25 : Nat} {mq27 : Nat} {mq29 : Nat} {mq31 : Nat} {mq33 : Nat} {mq35 : Nat} {mq37 : Nat} {mq39 : Nat} {mq41 : Nat} {mk20 : ClassId} (C0 : lw_At p s m meth c b 6 xs) (hA : ∀ q : Nat, s.heap.size ≤ q → A q) (hAq : ∀ q : Nat, A q → s.heap.size ≤ q) (hE : xE s) (hT : xT kA vA A s s.heap) (hK : va_K (dC, dI) classes [(mk20, .int)] s) {H : Heap} {locs : List Loc} (hP : va_P (dC, dI) classes [(xo, .inr (11, [.ref xq1, .int 0, .ref xq3, .ref xq7, .ref xq12, .int 0, .int (-1), .ref xq14, .ref xq24, .ref xq34, .ref xq36, .ref xq38, .ref xq48, .ref xq51, .ref xq53, .ref xq55, .ref xq57, .ref xq59, .int 0])), (xq14, .inr (1, [.int 0, .int 0, .int 0, .ref xq16, .ref xq17, .ref xq18, .ref xq19])), (mo, .inr (12, [.ref mq1, .int 0, .int 0, .ref mq3, .ref mq5, .ref mq7, .ref mq9, .ref mq11, .int 0, .int 0, .int 0, .int 0, .int 0, .int 0, .int 0, .ref mq13, .int 0, .ref mq15, .int 0, .ref mq17, .ref mq19, .int (-1), .int 0, .int 0, .int 0, .int 0, .int 0, .ref mq21, .int 0, .ref mq23, .ref mq25, .ref mq27, .int 0, .int 0, .int 0, .ref mq29, .ref mq31, .ref mq33, .long 0, .ref mq35, .ref mq37, .ref mq39, .ref mq41])), (mq19, .inl (mk20, 100, .inl (fun _ => 0)))] H) (hD : va_D A [(xo, .inr (11, [.ref xq1, .int 0, .ref xq3, .ref xq7, .ref xq12, .int 0, .int (-1), .ref xq14, .ref xq24, .ref xq34, .ref xq36, .ref xq38, .ref xq48, .ref xq51, .ref xq53, .ref xq55, .ref xq57, .ref xq59, .int 0])), (xq14, .inr (1, [.int 0, .int 0, .int 0, .ref xq16, .ref xq17, .ref xq18, .ref xq19])), (mo, .inr (12, [.ref mq1, .int 0, .int 0, .ref mq3, .ref mq5, .ref mq7, .ref mq9, .ref mq11, .int 0, .int 0, .int 0, .int 0, .int 0, .int 0, .int 0, .ref mq13, .int 0, .ref mq15, .int 0, .ref mq17, .ref mq19, .int (-1), .int 0, .int 0, .int 0, .int 0, .int 0, .ref mq21, .int 0, .ref mq23, .ref mq25, .ref mq27, .int 0, .int 0, .int 0, .ref mq29, .ref mq31, .ref mq33, .long 0, .ref mq35, .ref mq37, .ref mq39, .ref mq41])), (mq19, .inl (mk20, 100, .inl (fun _ => 0)))]) (hS : va_S A s.heap H locs) {ls : Array Slot} (hl : lv_has ls 4 [(3, .int 0), (2, .ref mo), (1, .ref xo), (0, .ref b)]) : W p l e room_1 s m #[Value.ref b] below meth c H locs 152 8829 (lw_Z below #[Value.ref b] s) (F0 m 475 ls []) := by
  obtain ⟨hx, hb, hr, hml, hown, hts, hX, hbl, hlocks, hgv⟩ := id C0
  have hown : s.vm.findClass RL = some m.cls := hown
  have hq : ∀ w ∈ wsA, w.before _ s = true := fun w h => hts w (List.mem_filter.mp h).1
  have hbA : ¬ A b := fun h => Nat.not_le.mpr hbl (hAq b h)
  obtain ⟨z1, ez1⟩ : ∃ z : Int32, z = xs 1 := ⟨_, rfl⟩
  refine lv_aload_n hx hb dL_law_475 rfl (lv_at hl 2 rfl) ?_
  refine lv_aload_n hx hb dL_law_476 rfl (lv_at hl 3 rfl) ?_
  refine lv_iload_n hx hb dL_law_477 rfl (lv_at hl 0 rfl) ?_
  refine lv_iconst (v := 1) hx hb dL_law_478 (by decide) ?_
  refine lv_iadd hx hb dL_law_479 ?_
  refine lv_topi (fun y_1 ey_1 => ?_)
  obtain rfl : y_1 = 1 := ey_1.trans (by decide)
  refine va_sld hx hb hX hbl hbA hS (inr_ok rfl) dL_law_480 ?_
  refine W.eq (g2 := F0 m 481 ls [.int z1, .ref xo]) (by rw [ez1]; rfl) ?_
  have hPc := hP.sub (ws' := [(xo, .inr (11, [.ref xq1, .int 0, .ref xq3, .ref xq7, .ref xq12, .int 0, .int (-1), .ref xq14, .ref xq24, .ref xq34, .ref xq36, .ref xq38, .ref xq48, .ref xq51, .ref xq53, .ref xq55, .ref xq57, .ref xq59, .int 0])), (xq14, .inr (1, [.int 0, .int 0, .int 0, .ref xq16, .ref xq17, .ref xq18, .ref xq19]))]) [0, 1] rfl
  have hDc := hD.sub (ws' := [(xo, .inr (11, [.ref xq1, .int 0, .ref xq3, .ref xq7, .ref xq12, .int 0, .int (-1), .ref xq14, .ref xq24, .ref xq34, .ref xq36, .ref xq38, .ref xq48, .ref xq51, .ref xq53, .ref xq55, .ref xq57, .ref xq59, .int 0])), (xq14, .inr (1, [.int 0, .int 0, .int 0, .ref xq16, .ref xq17, .ref xq18, .ref xq19]))]) [0, 1] (by decide) rfl
  have hKc := hK.sub (tys' := []) [] rfl
  have hFc := va_free (wc := [(xo, .inr (11, [.ref xq1, .int 0, .ref xq3, .ref xq7, .ref xq12, .int 0, .int (-1), .ref xq14, .ref xq24, .ref xq34, .ref xq36, .ref xq38, .ref xq48, .ref xq51, .ref xq53, .ref xq55, .ref xq57, .ref xq59, .int 0])), (xq14, .inr (1, [.int 0, .int 0, .int 0, .ref xq16, .ref xq17, .ref xq18, .ref xq19]))]) hD hS hA [0, 1] rfl
  refine va_calli (va_runV (As := [.int z1]) (rest := []) ⟨hx, hb, hml, hown, hq⟩ (c_SB_serve l dC dI _ xo xq1 xq3 xq7 xq12 xq14 xq24 xq34 xq36 xq38 xq48 xq51 xq53 xq55 xq57 xq59 xq16 xq17 xq18 xq19 z1 ) (cwV 1 hq (gV qw_894 qw_895 qw_896 qw_119 qw_897) rfl rfl rfl (by decide +kernel) ⟨Nat.le_of_ble_eq_true rfl, Nat.le_of_ble_eq_true rfl⟩) ⟨fun a U g mk q => by obtain ⟨q0, q1, qP, qK, qD, qE⟩ := q; exact ⟨q0, q1, qP, va_K.moved (u := U) (U := U.calling g mk a) (Vm.Alike.refl U.vm) qK, qD, xE.same rfl qE⟩, va_recv hKc hPc (ci := 11) (q0 := 0) rfl rfl, fun U hU hW => ⟨rfl, by rw [hU], by rw [hU]; exact hPc, va_K.moved hW.alike hKc, hDc.weaken (fun _ _ _ _ => trivial), xE.warm hW hE⟩⟩ rfl rfl hl.1 rfl (lv_room (Nat.le_of_ble_eq_true rfl)) dL_law_481 ⟨Nat.le_of_ble_eq_true rfl, Nat.le_of_ble_eq_true rfl⟩) hS (fun q _ h => hFc q h) hFc (fun r_2 u t H1 locs ht hvm hw hB hz1 hk1 hS => ?_)
  have hP1 : va_P (dC, dI) classes [] H1 := vP_nil
  have hD1 : va_D (va_A [(xo, .inr (11, [.ref xq1, .int 0, .ref xq3, .ref xq7, .ref xq12, .int 0, .int (-1), .ref xq14, .ref xq24, .ref xq34, .ref xq36, .ref xq38, .ref xq48, .ref xq51, .ref xq53, .ref xq55, .ref xq57, .ref xq59, .int 0])), (xq14, .inr (1, [.int 0, .int 0, .int 0, .ref xq16, .ref xq17, .ref xq18, .ref xq19]))] H.size) [] := vD_nil
  obtain ⟨hP, hD⟩ := va_join (wr := [(mo, .inr (12, [.ref mq1, .int 0, .int 0, .ref mq3, .ref mq5, .ref mq7, .ref mq9, .ref mq11, .int 0, .int 0, .int 0, .int 0, .int 0, .int 0, .int 0, .ref mq13, .int 0, .ref mq15, .int 0, .ref mq17, .ref mq19, .int (-1), .int 0, .int 0, .int 0, .int 0, .int 0, .ref mq21, .int 0, .ref mq23, .ref mq25, .ref mq27, .int 0, .int 0, .int 0, .ref mq29, .ref mq31, .ref mq33, .long 0, .ref mq35, .ref mq37, .ref mq39, .ref mq41])), (mq19, .inl (mk20, 100, .inl (fun _ => 0)))]) (w1 := []) hP hD [0, 1] [2, 3] rfl rfl (by decide) (by decide) hk1 hFc hP1 hD1
  generalize H1 = H at hP hS ⊢
  have hP : va_P (dC, dI) classes [(mo, .inr (12, [.ref mq1, .int 0, .int 0, .ref mq3, .ref mq5, .ref mq7, .ref mq9, .ref mq11, .int 0, .int 0, .int 0, .int 0, .int 0, .int 0, .int 0, .ref mq13, .int 0, .ref mq15, .int 0, .ref mq17, .ref mq19, .int (-1), .int 0, .int 0, .int 0, .int 0, .int 0, .ref mq21, .int 0, .ref mq23, .ref mq25, .ref mq27, .int 0, .int 0, .int 0, .ref mq29, .ref mq31, .ref mq33, .long 0, .ref mq35, .ref mq37, .ref mq39, .ref mq41])), (mq19, .inl (mk20, 100, .inl (fun _ => 0)))] H := hP
  have hD : va_D A [(mo, .inr (12, [.ref mq1, .int 0, .int 0, .ref mq3, .ref mq5, .ref mq7, .ref mq9, .ref mq11, .int 0, .int 0, .int 0, .int 0, .int 0, .int 0, .int 0, .ref mq13, .int 0, .ref mq15, .int 0, .ref mq17, .ref mq19, .int (-1), .int 0, .int 0, .int 0, .int 0, .int 0, .ref mq21, .int 0, .ref mq23, .ref mq25, .ref mq27, .int 0, .int 0, .int 0, .ref mq29, .ref mq31, .ref mq33, .long 0, .ref mq35, .ref mq37, .ref mq39, .ref mq41])), (mq19, .inl (mk20, 100, .inl (fun _ => 0)))] := hD
  obtain rfl : r_2 = (-1) := hw
  refine lv_aload_n hx hb dL_law_484 rfl (lv_at hl 1 rfl) ?_
  refine lv_aload_n hx hb dL_law_485 rfl (lv_at hl 3 rfl) ?_
  refine lv_iload_n hx hb dL_law_486 rfl (lv_at hl 0 rfl) ?_
  refine lv_iconst (v := 1) hx hb dL_law_487 (by decide) ?_
  refine lv_iadd hx hb dL_law_488 ?_
  refine lv_topi (fun y_3 ey_3 => ?_)
  obtain rfl : y_3 = 1 := ey_3.trans (by decide)
  refine va_sld hx hb hX hbl hbA hS (inr_ok rfl) dL_law_489 ?_
  refine W.eq (g2 := F0 m 490 ls [.int z1, .ref mo, .int (-1)]) (by rw [ez1]; rfl) ?_
  have hPc := hP.sub (ws' := [(mo, .inr (12, [.ref mq1, .int 0, .int 0, .ref mq3, .ref mq5, .ref mq7, .ref mq9, .ref mq11, .int 0, .int 0, .int 0, .int 0, .int 0, .int 0, .int 0, .ref mq13, .int 0, .ref mq15, .int 0, .ref mq17, .ref mq19, .int (-1), .int 0, .int 0, .int 0, .int 0, .int 0, .ref mq21, .int 0, .ref mq23, .ref mq25, .ref mq27, .int 0, .int 0, .int 0, .ref mq29, .ref mq31, .ref mq33, .long 0, .ref mq35, .ref mq37, .ref mq39, .ref mq41])), (mq19, .inl (mk20, 100, .inl (fun _ => 0)))]) [0, 1] rfl
  have hDc := hD.sub (ws' := [(mo, .inr (12, [.ref mq1, .int 0, .int 0, .ref mq3, .ref mq5, .ref mq7, .ref mq9, .ref mq11, .int 0, .int 0, .int 0, .int 0, .int 0, .int 0, .int 0, .ref mq13, .int 0, .ref mq15, .int 0, .ref mq17, .ref mq19, .int (-1), .int 0, .int 0, .int 0, .int 0, .int 0, .ref mq21, .int 0, .ref mq23, .ref mq25, .ref mq27, .int 0, .int 0, .int 0, .ref mq29, .ref mq31, .ref mq33, .long 0, .ref mq35, .ref mq37, .ref mq39, .ref mq41])), (mq19, .inl (mk20, 100, .inl (fun _ => 0)))]) [0, 1] (by decide) rfl
  have hKc := hK.sub (tys' := [(mk20, .int)]) [0] rfl
  have hFc := va_free (wc := [(mo, .inr (12, [.ref mq1, .int 0, .int 0, .ref mq3, .ref mq5, .ref mq7, .ref mq9, .ref mq11, .int 0, .int 0, .int 0, .int 0, .int 0, .int 0, .int 0, .ref mq13, .int 0, .ref mq15, .int 0, .ref mq17, .ref mq19, .int (-1), .int 0, .int 0, .int 0, .int 0, .int 0, .ref mq21, .int 0, .ref mq23, .ref mq25, .ref mq27, .int 0, .int 0, .int 0, .ref mq29, .ref mq31, .ref mq33, .long 0, .ref mq35, .ref mq37, .ref mq39, .ref mq41])), (mq19, .inl (mk20, 100, .inl (fun _ => 0)))]) hD hS hA [0, 1] rfl
  refine va_calli (va_runV (As := [.int z1]) (rest := [.int (-1)]) ⟨hx, hb, hml, hown, hq⟩ (c_M_serve l dC dI _ mo mq1 mq3 mq5 mq7 mq9 mq11 mq13 mq15 mq17 mq19 mq21 mq23 mq25 mq27 mq29 mq31 mq33 mq35 mq37 mq39 mq41 mk20 z1 ) (cwV 1 hq (gV qw_1603 qw_1604 qw_1605 qw_131 qw_1606) rfl rfl rfl (by decide +kernel) ⟨Nat.le_of_ble_eq_true rfl, Nat.le_of_ble_eq_true rfl⟩) ⟨fun a U g mk q => by obtain ⟨q0, q1, qP, qK, qD, qE⟩ := q; exact ⟨q0, q1, qP, va_K.moved (u := U) (U := U.calling g mk a) (Vm.Alike.refl U.vm) qK, qD, xE.same rfl qE⟩, va_recv hKc hPc (ci := 12) (q0 := 0) rfl rfl, fun U hU hW => ⟨rfl, by rw [hU], by rw [hU]; exact hPc, va_K.moved hW.alike hKc, hDc.weaken (fun _ _ _ _ => trivial), xE.warm hW hE⟩⟩ rfl rfl hl.1 rfl (lv_room (Nat.le_of_ble_eq_true rfl)) dL_law_490 ⟨Nat.le_of_ble_eq_true rfl, Nat.le_of_ble_eq_true rfl⟩) hS (fun q _ h => hFc q h) hFc (fun r_4 u t H1 locs ht hvm hw hB hz1 hk1 hS => ?_)
  have hP1 : va_P (dC, dI) classes [] H1 := vP_nil
  have hD1 : va_D (va_A [(mo, .inr (12, [.ref mq1, .int 0, .int 0, .ref mq3, .ref mq5, .ref mq7, .ref mq9, .ref mq11, .int 0, .int 0, .int 0, .int 0, .int 0, .int 0, .int 0, .ref mq13, .int 0, .ref mq15, .int 0, .ref mq17, .ref mq19, .int (-1), .int 0, .int 0, .int 0, .int 0, .int 0, .ref mq21, .int 0, .ref mq23, .ref mq25, .ref mq27, .int 0, .int 0, .int 0, .ref mq29, .ref mq31, .ref mq33, .long 0, .ref mq35, .ref mq37, .ref mq39, .ref mq41])), (mq19, .inl (mk20, 100, .inl (fun _ => 0)))] H.size) [] := vD_nil
  obtain ⟨hP, hD⟩ := va_join (wr := []) (w1 := []) hP hD [0, 1] [] rfl rfl (by decide) (by decide) hk1 hFc hP1 hD1
  generalize H1 = H at hP hS ⊢
  have hP : va_P (dC, dI) classes [] H := hP
  have hD : va_D A [] := hD
  obtain rfl : r_4 = (-1) := hw
  refine lv_icmp_eq (tgt := 1210) hx hb dL_law_493 (by decide) (fun _ => ?_) (fun c9 => absurd c9 (by decide))
  exact law_end C0 hAq hS (lv_sub hl [0, 1, 2, 3] rfl)
set_option maxHeartbeats 4000000 in
set_option maxRecDepth 100000 in
/-- fetch, the first call -/
theorem law_12 {p : Program} {l : Launch} {e : Env} {s : State} {m : MethodId} {below : List Frame} {meth : Method} {c : Code} {A : Nat → Prop} {kA vA : Nat → Nat} {dC : Nat → ClassId} {dI : Nat → Nat → Nat} {b : Nat} {xs : Nat → Int32} {xo : Nat} {mo : Nat} {xq1 : Nat} {xq3 : Nat} {xq7 : Nat} {xq12 : Nat} {xq14 : Nat} {xq24 : Nat} {xq34 : Nat} {xq36 : Nat} {xq38 : Nat} {xq48 : Nat} {xq51 : Nat} {xq53 : Nat} {xq55 : Nat} {xq57 : Nat} {xq59 : Nat} {xq16 : Nat} {xq17 : Nat} {xq18 : Nat} {xq19 : Nat} {mq1 : Nat} {mq3 : Nat} {mq5 : Nat} {mq7 : Nat} {mq9 : Nat} {mq11 : Nat} {mq13 : Nat} {mq15 : Nat} {mq17 : Nat} {mq19 : Nat} {mq21 : Nat} {mq23 : Nat} {mq25 : Nat} {mq27 : Nat} {mq29 : Nat} {mq31 : Nat} {mq33 : Nat} {mq35 : Nat} {mq37 : Nat} {mq39 : Nat} {mq41 : Nat} {mk20 : ClassId} (C0 : lw_At p s m meth c b 6 xs) (hA : ∀ q : Nat, s.heap.size ≤ q → A q) (hAq : ∀ q : Nat, A q → s.heap.size ≤ q) (hE : xE s) (hT : xT kA vA A s s.heap) (hK : va_K (dC, dI) classes [(mk20, .int)] s) {H : Heap} {locs : List Loc} (hP : va_P (dC, dI) classes [(xo, .inr (11, [.ref xq1, .int 0, .ref xq3, .ref xq7, .ref xq12, .int 0, .int (-1), .ref xq14, .ref xq24, .ref xq34, .ref xq36, .ref xq38, .ref xq48, .ref xq51, .ref xq53, .ref xq55, .ref xq57, .ref xq59, .int 0])), (xq14, .inr (1, [.int 0, .int 0, .int 0, .ref xq16, .ref xq17, .ref xq18, .ref xq19])), (mo, .inr (12, [.ref mq1, .int 0, .int 0, .ref mq3, .ref mq5, .ref mq7, .ref mq9, .ref mq11, .int 0, .int 0, .int 0, .int 0, .int 0, .int 0, .int 0, .ref mq13, .int 0, .ref mq15, .int 0, .ref mq17, .ref mq19, .int (-1), .int 0, .int 0, .int 0, .int 0, .int 0, .ref mq21, .int 0, .ref mq23, .ref mq25, .ref mq27, .int 0, .int 0, .int 0, .ref mq29, .ref mq31, .ref mq33, .long 0, .ref mq35, .ref mq37, .ref mq39, .ref mq41])), (mq19, .inl (mk20, 100, .inl (fun _ => 0)))] H) (hD : va_D A [(xo, .inr (11, [.ref xq1, .int 0, .ref xq3, .ref xq7, .ref xq12, .int 0, .int (-1), .ref xq14, .ref xq24, .ref xq34, .ref xq36, .ref xq38, .ref xq48, .ref xq51, .ref xq53, .ref xq55, .ref xq57, .ref xq59, .int 0])), (xq14, .inr (1, [.int 0, .int 0, .int 0, .ref xq16, .ref xq17, .ref xq18, .ref xq19])), (mo, .inr (12, [.ref mq1, .int 0, .int 0, .ref mq3, .ref mq5, .ref mq7, .ref mq9, .ref mq11, .int 0, .int 0, .int 0, .int 0, .int 0, .int 0, .int 0, .ref mq13, .int 0, .ref mq15, .int 0, .ref mq17, .ref mq19, .int (-1), .int 0, .int 0, .int 0, .int 0, .int 0, .ref mq21, .int 0, .ref mq23, .ref mq25, .ref mq27, .int 0, .int 0, .int 0, .ref mq29, .ref mq31, .ref mq33, .long 0, .ref mq35, .ref mq37, .ref mq39, .ref mq41])), (mq19, .inl (mk20, 100, .inl (fun _ => 0)))]) (hS : va_S A s.heap H locs) {ls : Array Slot} (hl : lv_has ls 4 [(3, .int 0), (2, .ref mo), (1, .ref xo), (0, .ref b)]) : W p l e room_1 s m #[Value.ref b] below meth c H locs 152 8829 (lw_Z below #[Value.ref b] s) (F0 m 498 ls []) := by
  obtain ⟨hx, hb, hr, hml, hown, hts, hX, hbl, hlocks, hgv⟩ := id C0
  have hown : s.vm.findClass RL = some m.cls := hown
  have hq : ∀ w ∈ wsA, w.before _ s = true := fun w h => hts w (List.mem_filter.mp h).1
  have hbA : ¬ A b := fun h => Nat.not_le.mpr hbl (hAq b h)
  obtain ⟨z1, ez1⟩ : ∃ z : Int32, z = xs 1 := ⟨_, rfl⟩
  refine lv_aload_n hx hb dL_law_498 rfl (lv_at hl 2 rfl) ?_
  refine lv_aload_n hx hb dL_law_499 rfl (lv_at hl 3 rfl) ?_
  refine lv_iload_n hx hb dL_law_500 rfl (lv_at hl 0 rfl) ?_
  refine lv_iconst (v := 1) hx hb dL_law_501 (by decide) ?_
  refine lv_iadd hx hb dL_law_502 ?_
  refine lv_topi (fun y_1 ey_1 => ?_)
  obtain rfl : y_1 = 1 := ey_1.trans (by decide)
  refine va_sld hx hb hX hbl hbA hS (inr_ok rfl) dL_law_503 ?_
  refine W.eq (g2 := F0 m 504 ls [.int z1, .ref xo]) (by rw [ez1]; rfl) ?_
  have hPc := hP.sub (ws' := [(xo, .inr (11, [.ref xq1, .int 0, .ref xq3, .ref xq7, .ref xq12, .int 0, .int (-1), .ref xq14, .ref xq24, .ref xq34, .ref xq36, .ref xq38, .ref xq48, .ref xq51, .ref xq53, .ref xq55, .ref xq57, .ref xq59, .int 0])), (xq14, .inr (1, [.int 0, .int 0, .int 0, .ref xq16, .ref xq17, .ref xq18, .ref xq19]))]) [0, 1] rfl
  have hDc := hD.sub (ws' := [(xo, .inr (11, [.ref xq1, .int 0, .ref xq3, .ref xq7, .ref xq12, .int 0, .int (-1), .ref xq14, .ref xq24, .ref xq34, .ref xq36, .ref xq38, .ref xq48, .ref xq51, .ref xq53, .ref xq55, .ref xq57, .ref xq59, .int 0])), (xq14, .inr (1, [.int 0, .int 0, .int 0, .ref xq16, .ref xq17, .ref xq18, .ref xq19]))]) [0, 1] (by decide) rfl
  have hKc := hK.sub (tys' := []) [] rfl
  have hFc := va_free (wc := [(xo, .inr (11, [.ref xq1, .int 0, .ref xq3, .ref xq7, .ref xq12, .int 0, .int (-1), .ref xq14, .ref xq24, .ref xq34, .ref xq36, .ref xq38, .ref xq48, .ref xq51, .ref xq53, .ref xq55, .ref xq57, .ref xq59, .int 0])), (xq14, .inr (1, [.int 0, .int 0, .int 0, .ref xq16, .ref xq17, .ref xq18, .ref xq19]))]) hD hS hA [0, 1] rfl
  refine va_calli (va_runV (As := [.int z1]) (rest := []) ⟨hx, hb, hml, hown, hq⟩ (c_SB_fetch l dC dI _ xo xq1 xq3 xq7 xq12 xq14 xq24 xq34 xq36 xq38 xq48 xq51 xq53 xq55 xq57 xq59 xq16 xq17 xq18 xq19 z1 ) (cwV 1 hq (gV qw_898 qw_899 qw_900 qw_119 qw_901) rfl rfl rfl (by decide +kernel) ⟨Nat.le_of_ble_eq_true rfl, Nat.le_of_ble_eq_true rfl⟩) ⟨fun a U g mk q => by obtain ⟨q0, q1, qP, qK, qD, qE⟩ := q; exact ⟨q0, q1, qP, va_K.moved (u := U) (U := U.calling g mk a) (Vm.Alike.refl U.vm) qK, qD, xE.same rfl qE⟩, va_recv hKc hPc (ci := 11) (q0 := 0) rfl rfl, fun U hU hW => ⟨rfl, by rw [hU], by rw [hU]; exact hPc, va_K.moved hW.alike hKc, hDc.weaken (fun _ _ _ _ => trivial), xE.warm hW hE⟩⟩ rfl rfl hl.1 rfl (lv_room (Nat.le_of_ble_eq_true rfl)) dL_law_504 ⟨Nat.le_of_ble_eq_true rfl, Nat.le_of_ble_eq_true rfl⟩) hS (fun q _ h => hFc q h) hFc (fun r_2 u t H1 locs ht hvm hw hB hz1 hk1 hS => ?_)
  have hP1 : va_P (dC, dI) classes [] H1 := vP_nil
  have hD1 : va_D (va_A [(xo, .inr (11, [.ref xq1, .int 0, .ref xq3, .ref xq7, .ref xq12, .int 0, .int (-1), .ref xq14, .ref xq24, .ref xq34, .ref xq36, .ref xq38, .ref xq48, .ref xq51, .ref xq53, .ref xq55, .ref xq57, .ref xq59, .int 0])), (xq14, .inr (1, [.int 0, .int 0, .int 0, .ref xq16, .ref xq17, .ref xq18, .ref xq19]))] H.size) [] := vD_nil
  obtain ⟨hP, hD⟩ := va_join (wr := [(mo, .inr (12, [.ref mq1, .int 0, .int 0, .ref mq3, .ref mq5, .ref mq7, .ref mq9, .ref mq11, .int 0, .int 0, .int 0, .int 0, .int 0, .int 0, .int 0, .ref mq13, .int 0, .ref mq15, .int 0, .ref mq17, .ref mq19, .int (-1), .int 0, .int 0, .int 0, .int 0, .int 0, .ref mq21, .int 0, .ref mq23, .ref mq25, .ref mq27, .int 0, .int 0, .int 0, .ref mq29, .ref mq31, .ref mq33, .long 0, .ref mq35, .ref mq37, .ref mq39, .ref mq41])), (mq19, .inl (mk20, 100, .inl (fun _ => 0)))]) (w1 := []) hP hD [0, 1] [2, 3] rfl rfl (by decide) (by decide) hk1 hFc hP1 hD1
  generalize H1 = H at hP hS ⊢
  have hP : va_P (dC, dI) classes [(mo, .inr (12, [.ref mq1, .int 0, .int 0, .ref mq3, .ref mq5, .ref mq7, .ref mq9, .ref mq11, .int 0, .int 0, .int 0, .int 0, .int 0, .int 0, .int 0, .ref mq13, .int 0, .ref mq15, .int 0, .ref mq17, .ref mq19, .int (-1), .int 0, .int 0, .int 0, .int 0, .int 0, .ref mq21, .int 0, .ref mq23, .ref mq25, .ref mq27, .int 0, .int 0, .int 0, .ref mq29, .ref mq31, .ref mq33, .long 0, .ref mq35, .ref mq37, .ref mq39, .ref mq41])), (mq19, .inl (mk20, 100, .inl (fun _ => 0)))] H := hP
  have hD : va_D A [(mo, .inr (12, [.ref mq1, .int 0, .int 0, .ref mq3, .ref mq5, .ref mq7, .ref mq9, .ref mq11, .int 0, .int 0, .int 0, .int 0, .int 0, .int 0, .int 0, .ref mq13, .int 0, .ref mq15, .int 0, .ref mq17, .ref mq19, .int (-1), .int 0, .int 0, .int 0, .int 0, .int 0, .ref mq21, .int 0, .ref mq23, .ref mq25, .ref mq27, .int 0, .int 0, .int 0, .ref mq29, .ref mq31, .ref mq33, .long 0, .ref mq35, .ref mq37, .ref mq39, .ref mq41])), (mq19, .inl (mk20, 100, .inl (fun _ => 0)))] := hD
  obtain rfl : r_2 = (-1) := hw
  refine lv_aload_n hx hb dL_law_507 rfl (lv_at hl 1 rfl) ?_
  refine lv_aload_n hx hb dL_law_508 rfl (lv_at hl 3 rfl) ?_
  refine lv_iload_n hx hb dL_law_509 rfl (lv_at hl 0 rfl) ?_
  refine lv_iconst (v := 1) hx hb dL_law_510 (by decide) ?_
  refine lv_iadd hx hb dL_law_511 ?_
  refine lv_topi (fun y_3 ey_3 => ?_)
  obtain rfl : y_3 = 1 := ey_3.trans (by decide)
  refine va_sld hx hb hX hbl hbA hS (inr_ok rfl) dL_law_512 ?_
  refine W.eq (g2 := F0 m 513 ls [.int z1, .ref mo, .int (-1)]) (by rw [ez1]; rfl) ?_
  have hPc := hP.sub (ws' := [(mo, .inr (12, [.ref mq1, .int 0, .int 0, .ref mq3, .ref mq5, .ref mq7, .ref mq9, .ref mq11, .int 0, .int 0, .int 0, .int 0, .int 0, .int 0, .int 0, .ref mq13, .int 0, .ref mq15, .int 0, .ref mq17, .ref mq19, .int (-1), .int 0, .int 0, .int 0, .int 0, .int 0, .ref mq21, .int 0, .ref mq23, .ref mq25, .ref mq27, .int 0, .int 0, .int 0, .ref mq29, .ref mq31, .ref mq33, .long 0, .ref mq35, .ref mq37, .ref mq39, .ref mq41])), (mq19, .inl (mk20, 100, .inl (fun _ => 0)))]) [0, 1] rfl
  have hDc := hD.sub (ws' := [(mo, .inr (12, [.ref mq1, .int 0, .int 0, .ref mq3, .ref mq5, .ref mq7, .ref mq9, .ref mq11, .int 0, .int 0, .int 0, .int 0, .int 0, .int 0, .int 0, .ref mq13, .int 0, .ref mq15, .int 0, .ref mq17, .ref mq19, .int (-1), .int 0, .int 0, .int 0, .int 0, .int 0, .ref mq21, .int 0, .ref mq23, .ref mq25, .ref mq27, .int 0, .int 0, .int 0, .ref mq29, .ref mq31, .ref mq33, .long 0, .ref mq35, .ref mq37, .ref mq39, .ref mq41])), (mq19, .inl (mk20, 100, .inl (fun _ => 0)))]) [0, 1] (by decide) rfl
  have hKc := hK.sub (tys' := [(mk20, .int)]) [0] rfl
  have hFc := va_free (wc := [(mo, .inr (12, [.ref mq1, .int 0, .int 0, .ref mq3, .ref mq5, .ref mq7, .ref mq9, .ref mq11, .int 0, .int 0, .int 0, .int 0, .int 0, .int 0, .int 0, .ref mq13, .int 0, .ref mq15, .int 0, .ref mq17, .ref mq19, .int (-1), .int 0, .int 0, .int 0, .int 0, .int 0, .ref mq21, .int 0, .ref mq23, .ref mq25, .ref mq27, .int 0, .int 0, .int 0, .ref mq29, .ref mq31, .ref mq33, .long 0, .ref mq35, .ref mq37, .ref mq39, .ref mq41])), (mq19, .inl (mk20, 100, .inl (fun _ => 0)))]) hD hS hA [0, 1] rfl
  refine va_calli (va_runV (As := [.int z1]) (rest := [.int (-1)]) ⟨hx, hb, hml, hown, hq⟩ (c_M_fetch l dC dI _ mo mq1 mq3 mq5 mq7 mq9 mq11 mq13 mq15 mq17 mq19 mq21 mq23 mq25 mq27 mq29 mq31 mq33 mq35 mq37 mq39 mq41 mk20 z1 ) (cwV 1 hq (gV qw_1607 qw_1608 qw_1609 qw_131 qw_1610) rfl rfl rfl (by decide +kernel) ⟨Nat.le_of_ble_eq_true rfl, Nat.le_of_ble_eq_true rfl⟩) ⟨fun a U g mk q => by obtain ⟨q0, q1, qP, qK, qD, qE⟩ := q; exact ⟨q0, q1, qP, va_K.moved (u := U) (U := U.calling g mk a) (Vm.Alike.refl U.vm) qK, qD, xE.same rfl qE⟩, va_recv hKc hPc (ci := 12) (q0 := 0) rfl rfl, fun U hU hW => ⟨rfl, by rw [hU], by rw [hU]; exact hPc, va_K.moved hW.alike hKc, hDc.weaken (fun _ _ _ _ => trivial), xE.warm hW hE⟩⟩ rfl rfl hl.1 rfl (lv_room (Nat.le_of_ble_eq_true rfl)) dL_law_513 ⟨Nat.le_of_ble_eq_true rfl, Nat.le_of_ble_eq_true rfl⟩) hS (fun q _ h => hFc q h) hFc (fun r_4 u t H1 locs ht hvm hw hB hz1 hk1 hS => ?_)
  have hP1 : va_P (dC, dI) classes [] H1 := vP_nil
  have hD1 : va_D (va_A [(mo, .inr (12, [.ref mq1, .int 0, .int 0, .ref mq3, .ref mq5, .ref mq7, .ref mq9, .ref mq11, .int 0, .int 0, .int 0, .int 0, .int 0, .int 0, .int 0, .ref mq13, .int 0, .ref mq15, .int 0, .ref mq17, .ref mq19, .int (-1), .int 0, .int 0, .int 0, .int 0, .int 0, .ref mq21, .int 0, .ref mq23, .ref mq25, .ref mq27, .int 0, .int 0, .int 0, .ref mq29, .ref mq31, .ref mq33, .long 0, .ref mq35, .ref mq37, .ref mq39, .ref mq41])), (mq19, .inl (mk20, 100, .inl (fun _ => 0)))] H.size) [] := vD_nil
  obtain ⟨hP, hD⟩ := va_join (wr := []) (w1 := []) hP hD [0, 1] [] rfl rfl (by decide) (by decide) hk1 hFc hP1 hD1
  generalize H1 = H at hP hS ⊢
  have hP : va_P (dC, dI) classes [] H := hP
  have hD : va_D A [] := hD
  obtain rfl : r_4 = (-1) := hw
  refine lv_icmp_eq (tgt := 1210) hx hb dL_law_516 (by decide) (fun _ => ?_) (fun c9 => absurd c9 (by decide))
  exact law_end C0 hAq hS (lv_sub hl [0, 1, 2, 3] rfl)
set_option maxHeartbeats 4000000 in
set_option maxRecDepth 100000 in
/-- tell, the first call -/
theorem law_13 {p : Program} {l : Launch} {e : Env} {s : State} {m : MethodId} {below : List Frame} {meth : Method} {c : Code} {A : Nat → Prop} {kA vA : Nat → Nat} {dC : Nat → ClassId} {dI : Nat → Nat → Nat} {b : Nat} {xs : Nat → Int32} {xo : Nat} {mo : Nat} {xq1 : Nat} {xq3 : Nat} {xq7 : Nat} {xq12 : Nat} {xq14 : Nat} {xq24 : Nat} {xq34 : Nat} {xq36 : Nat} {xq38 : Nat} {xq48 : Nat} {xq51 : Nat} {xq53 : Nat} {xq55 : Nat} {xq57 : Nat} {xq59 : Nat} {xq16 : Nat} {xq17 : Nat} {xq18 : Nat} {xq19 : Nat} {mq1 : Nat} {mq3 : Nat} {mq5 : Nat} {mq7 : Nat} {mq9 : Nat} {mq11 : Nat} {mq13 : Nat} {mq15 : Nat} {mq17 : Nat} {mq19 : Nat} {mq21 : Nat} {mq23 : Nat} {mq25 : Nat} {mq27 : Nat} {mq29 : Nat} {mq31 : Nat} {mq33 : Nat} {mq35 : Nat} {mq37 : Nat} {mq39 : Nat} {mq41 : Nat} {mk20 : ClassId} (C0 : lw_At p s m meth c b 6 xs) (hA : ∀ q : Nat, s.heap.size ≤ q → A q) (hAq : ∀ q : Nat, A q → s.heap.size ≤ q) (hE : xE s) (hT : xT kA vA A s s.heap) (hK : va_K (dC, dI) classes [(mk20, .int)] s) {H : Heap} {locs : List Loc} (hP : va_P (dC, dI) classes [(xo, .inr (11, [.ref xq1, .int 0, .ref xq3, .ref xq7, .ref xq12, .int 0, .int (-1), .ref xq14, .ref xq24, .ref xq34, .ref xq36, .ref xq38, .ref xq48, .ref xq51, .ref xq53, .ref xq55, .ref xq57, .ref xq59, .int 0])), (xq14, .inr (1, [.int 0, .int 0, .int 0, .ref xq16, .ref xq17, .ref xq18, .ref xq19])), (mo, .inr (12, [.ref mq1, .int 0, .int 0, .ref mq3, .ref mq5, .ref mq7, .ref mq9, .ref mq11, .int 0, .int 0, .int 0, .int 0, .int 0, .int 0, .int 0, .ref mq13, .int 0, .ref mq15, .int 0, .ref mq17, .ref mq19, .int (-1), .int 0, .int 0, .int 0, .int 0, .int 0, .ref mq21, .int 0, .ref mq23, .ref mq25, .ref mq27, .int 0, .int 0, .int 0, .ref mq29, .ref mq31, .ref mq33, .long 0, .ref mq35, .ref mq37, .ref mq39, .ref mq41])), (mq19, .inl (mk20, 100, .inl (fun _ => 0)))] H) (hD : va_D A [(xo, .inr (11, [.ref xq1, .int 0, .ref xq3, .ref xq7, .ref xq12, .int 0, .int (-1), .ref xq14, .ref xq24, .ref xq34, .ref xq36, .ref xq38, .ref xq48, .ref xq51, .ref xq53, .ref xq55, .ref xq57, .ref xq59, .int 0])), (xq14, .inr (1, [.int 0, .int 0, .int 0, .ref xq16, .ref xq17, .ref xq18, .ref xq19])), (mo, .inr (12, [.ref mq1, .int 0, .int 0, .ref mq3, .ref mq5, .ref mq7, .ref mq9, .ref mq11, .int 0, .int 0, .int 0, .int 0, .int 0, .int 0, .int 0, .ref mq13, .int 0, .ref mq15, .int 0, .ref mq17, .ref mq19, .int (-1), .int 0, .int 0, .int 0, .int 0, .int 0, .ref mq21, .int 0, .ref mq23, .ref mq25, .ref mq27, .int 0, .int 0, .int 0, .ref mq29, .ref mq31, .ref mq33, .long 0, .ref mq35, .ref mq37, .ref mq39, .ref mq41])), (mq19, .inl (mk20, 100, .inl (fun _ => 0)))]) (hS : va_S A s.heap H locs) {ls : Array Slot} (hl : lv_has ls 4 [(3, .int 0), (2, .ref mo), (1, .ref xo), (0, .ref b)]) : W p l e room_1 s m #[Value.ref b] below meth c H locs 152 8829 (lw_Z below #[Value.ref b] s) (F0 m 521 ls []) := by
  obtain ⟨hx, hb, hr, hml, hown, hts, hX, hbl, hlocks, hgv⟩ := id C0
  have hown : s.vm.findClass RL = some m.cls := hown
  have hq : ∀ w ∈ wsA, w.before _ s = true := fun w h => hts w (List.mem_filter.mp h).1
  have hbA : ¬ A b := fun h => Nat.not_le.mpr hbl (hAq b h)
  obtain ⟨z1, ez1⟩ : ∃ z : Int32, z = xs 1 := ⟨_, rfl⟩
  obtain ⟨z2, ez2⟩ : ∃ z : Int32, z = xs 2 := ⟨_, rfl⟩
  refine lv_aload_n hx hb dL_law_521 rfl (lv_at hl 2 rfl) ?_
  refine lv_aload_n hx hb dL_law_522 rfl (lv_at hl 3 rfl) ?_
  refine lv_iload_n hx hb dL_law_523 rfl (lv_at hl 0 rfl) ?_
  refine lv_iconst (v := 1) hx hb dL_law_524 (by decide) ?_
  refine lv_iadd hx hb dL_law_525 ?_
  refine lv_topi (fun y_1 ey_1 => ?_)
  obtain rfl : y_1 = 1 := ey_1.trans (by decide)
  refine va_sld hx hb hX hbl hbA hS (inr_ok rfl) dL_law_526 ?_
  refine W.eq (g2 := F0 m 527 ls [.int z1, .ref xo]) (by rw [ez1]; rfl) ?_
  refine lv_aload_n hx hb dL_law_527 rfl (lv_at hl 3 rfl) ?_
  refine lv_iload_n hx hb dL_law_528 rfl (lv_at hl 0 rfl) ?_
  refine lv_iconst (v := 2) hx hb dL_law_529 (by decide) ?_
  refine lv_iadd hx hb dL_law_530 ?_
  refine lv_topi (fun y_2 ey_2 => ?_)
  obtain rfl : y_2 = 2 := ey_2.trans (by decide)
  refine va_sld hx hb hX hbl hbA hS (inr_ok rfl) dL_law_531 ?_
  refine W.eq (g2 := F0 m 532 ls [.int z2, .int z1, .ref xo]) (by rw [ez2]; rfl) ?_
  have hPc := hP.sub (ws' := [(xo, .inr (11, [.ref xq1, .int 0, .ref xq3, .ref xq7, .ref xq12, .int 0, .int (-1), .ref xq14, .ref xq24, .ref xq34, .ref xq36, .ref xq38, .ref xq48, .ref xq51, .ref xq53, .ref xq55, .ref xq57, .ref xq59, .int 0])), (xq14, .inr (1, [.int 0, .int 0, .int 0, .ref xq16, .ref xq17, .ref xq18, .ref xq19]))]) [0, 1] rfl
  have hDc := hD.sub (ws' := [(xo, .inr (11, [.ref xq1, .int 0, .ref xq3, .ref xq7, .ref xq12, .int 0, .int (-1), .ref xq14, .ref xq24, .ref xq34, .ref xq36, .ref xq38, .ref xq48, .ref xq51, .ref xq53, .ref xq55, .ref xq57, .ref xq59, .int 0])), (xq14, .inr (1, [.int 0, .int 0, .int 0, .ref xq16, .ref xq17, .ref xq18, .ref xq19]))]) [0, 1] (by decide) rfl
  have hKc := hK.sub (tys' := []) [] rfl
  have hFc := va_free (wc := [(xo, .inr (11, [.ref xq1, .int 0, .ref xq3, .ref xq7, .ref xq12, .int 0, .int (-1), .ref xq14, .ref xq24, .ref xq34, .ref xq36, .ref xq38, .ref xq48, .ref xq51, .ref xq53, .ref xq55, .ref xq57, .ref xq59, .int 0])), (xq14, .inr (1, [.int 0, .int 0, .int 0, .ref xq16, .ref xq17, .ref xq18, .ref xq19]))]) hD hS hA [0, 1] rfl
  refine va_calli (va_runV (As := [.int z1, .int z2]) (rest := []) ⟨hx, hb, hml, hown, hq⟩ (c_SB_tell l dC dI _ xo xq1 xq3 xq7 xq12 xq14 xq24 xq34 xq36 xq38 xq48 xq51 xq53 xq55 xq57 xq59 xq16 xq17 xq18 xq19 z1 z2 ) (cwV 2 hq (gV qw_908 qw_909 qw_910 qw_119 qw_911) rfl rfl rfl (by decide +kernel) ⟨Nat.le_of_ble_eq_true rfl, Nat.le_of_ble_eq_true rfl⟩) ⟨fun a U g mk q => by obtain ⟨q0, q1, qP, qK, qD, qE⟩ := q; exact ⟨q0, q1, qP, va_K.moved (u := U) (U := U.calling g mk a) (Vm.Alike.refl U.vm) qK, qD, xE.same rfl qE⟩, va_recv hKc hPc (ci := 11) (q0 := 0) rfl rfl, fun U hU hW => ⟨rfl, by rw [hU], by rw [hU]; exact hPc, va_K.moved hW.alike hKc, hDc.weaken (fun _ _ _ _ => trivial), xE.warm hW hE⟩⟩ rfl rfl hl.1 rfl (lv_room (Nat.le_of_ble_eq_true rfl)) dL_law_532 ⟨Nat.le_of_ble_eq_true rfl, Nat.le_of_ble_eq_true rfl⟩) hS (fun q _ h => hFc q h) hFc (fun r_3 u t H1 locs ht hvm hw hB hz1 hk1 hS => ?_)
  have hP1 : va_P (dC, dI) classes [] H1 := vP_nil
  have hD1 : va_D (va_A [(xo, .inr (11, [.ref xq1, .int 0, .ref xq3, .ref xq7, .ref xq12, .int 0, .int (-1), .ref xq14, .ref xq24, .ref xq34, .ref xq36, .ref xq38, .ref xq48, .ref xq51, .ref xq53, .ref xq55, .ref xq57, .ref xq59, .int 0])), (xq14, .inr (1, [.int 0, .int 0, .int 0, .ref xq16, .ref xq17, .ref xq18, .ref xq19]))] H.size) [] := vD_nil
  obtain ⟨hP, hD⟩ := va_join (wr := [(mo, .inr (12, [.ref mq1, .int 0, .int 0, .ref mq3, .ref mq5, .ref mq7, .ref mq9, .ref mq11, .int 0, .int 0, .int 0, .int 0, .int 0, .int 0, .int 0, .ref mq13, .int 0, .ref mq15, .int 0, .ref mq17, .ref mq19, .int (-1), .int 0, .int 0, .int 0, .int 0, .int 0, .ref mq21, .int 0, .ref mq23, .ref mq25, .ref mq27, .int 0, .int 0, .int 0, .ref mq29, .ref mq31, .ref mq33, .long 0, .ref mq35, .ref mq37, .ref mq39, .ref mq41])), (mq19, .inl (mk20, 100, .inl (fun _ => 0)))]) (w1 := []) hP hD [0, 1] [2, 3] rfl rfl (by decide) (by decide) hk1 hFc hP1 hD1
  generalize H1 = H at hP hS ⊢
  have hP : va_P (dC, dI) classes [(mo, .inr (12, [.ref mq1, .int 0, .int 0, .ref mq3, .ref mq5, .ref mq7, .ref mq9, .ref mq11, .int 0, .int 0, .int 0, .int 0, .int 0, .int 0, .int 0, .ref mq13, .int 0, .ref mq15, .int 0, .ref mq17, .ref mq19, .int (-1), .int 0, .int 0, .int 0, .int 0, .int 0, .ref mq21, .int 0, .ref mq23, .ref mq25, .ref mq27, .int 0, .int 0, .int 0, .ref mq29, .ref mq31, .ref mq33, .long 0, .ref mq35, .ref mq37, .ref mq39, .ref mq41])), (mq19, .inl (mk20, 100, .inl (fun _ => 0)))] H := hP
  have hD : va_D A [(mo, .inr (12, [.ref mq1, .int 0, .int 0, .ref mq3, .ref mq5, .ref mq7, .ref mq9, .ref mq11, .int 0, .int 0, .int 0, .int 0, .int 0, .int 0, .int 0, .ref mq13, .int 0, .ref mq15, .int 0, .ref mq17, .ref mq19, .int (-1), .int 0, .int 0, .int 0, .int 0, .int 0, .ref mq21, .int 0, .ref mq23, .ref mq25, .ref mq27, .int 0, .int 0, .int 0, .ref mq29, .ref mq31, .ref mq33, .long 0, .ref mq35, .ref mq37, .ref mq39, .ref mq41])), (mq19, .inl (mk20, 100, .inl (fun _ => 0)))] := hD
  obtain rfl : r_3 = (-1) := hw
  refine lv_aload_n hx hb dL_law_535 rfl (lv_at hl 1 rfl) ?_
  refine lv_aload_n hx hb dL_law_536 rfl (lv_at hl 3 rfl) ?_
  refine lv_iload_n hx hb dL_law_537 rfl (lv_at hl 0 rfl) ?_
  refine lv_iconst (v := 1) hx hb dL_law_538 (by decide) ?_
  refine lv_iadd hx hb dL_law_539 ?_
  refine lv_topi (fun y_4 ey_4 => ?_)
  obtain rfl : y_4 = 1 := ey_4.trans (by decide)
  refine va_sld hx hb hX hbl hbA hS (inr_ok rfl) dL_law_540 ?_
  refine W.eq (g2 := F0 m 541 ls [.int z1, .ref mo, .int (-1)]) (by rw [ez1]; rfl) ?_
  refine lv_aload_n hx hb dL_law_541 rfl (lv_at hl 3 rfl) ?_
  refine lv_iload_n hx hb dL_law_542 rfl (lv_at hl 0 rfl) ?_
  refine lv_iconst (v := 2) hx hb dL_law_543 (by decide) ?_
  refine lv_iadd hx hb dL_law_544 ?_
  refine lv_topi (fun y_5 ey_5 => ?_)
  obtain rfl : y_5 = 2 := ey_5.trans (by decide)
  refine va_sld hx hb hX hbl hbA hS (inr_ok rfl) dL_law_545 ?_
  refine W.eq (g2 := F0 m 546 ls [.int z2, .int z1, .ref mo, .int (-1)]) (by rw [ez2]; rfl) ?_
  have hPc := hP.sub (ws' := [(mo, .inr (12, [.ref mq1, .int 0, .int 0, .ref mq3, .ref mq5, .ref mq7, .ref mq9, .ref mq11, .int 0, .int 0, .int 0, .int 0, .int 0, .int 0, .int 0, .ref mq13, .int 0, .ref mq15, .int 0, .ref mq17, .ref mq19, .int (-1), .int 0, .int 0, .int 0, .int 0, .int 0, .ref mq21, .int 0, .ref mq23, .ref mq25, .ref mq27, .int 0, .int 0, .int 0, .ref mq29, .ref mq31, .ref mq33, .long 0, .ref mq35, .ref mq37, .ref mq39, .ref mq41])), (mq19, .inl (mk20, 100, .inl (fun _ => 0)))]) [0, 1] rfl
  have hDc := hD.sub (ws' := [(mo, .inr (12, [.ref mq1, .int 0, .int 0, .ref mq3, .ref mq5, .ref mq7, .ref mq9, .ref mq11, .int 0, .int 0, .int 0, .int 0, .int 0, .int 0, .int 0, .ref mq13, .int 0, .ref mq15, .int 0, .ref mq17, .ref mq19, .int (-1), .int 0, .int 0, .int 0, .int 0, .int 0, .ref mq21, .int 0, .ref mq23, .ref mq25, .ref mq27, .int 0, .int 0, .int 0, .ref mq29, .ref mq31, .ref mq33, .long 0, .ref mq35, .ref mq37, .ref mq39, .ref mq41])), (mq19, .inl (mk20, 100, .inl (fun _ => 0)))]) [0, 1] (by decide) rfl
  have hKc := hK.sub (tys' := [(mk20, .int)]) [0] rfl
  have hFc := va_free (wc := [(mo, .inr (12, [.ref mq1, .int 0, .int 0, .ref mq3, .ref mq5, .ref mq7, .ref mq9, .ref mq11, .int 0, .int 0, .int 0, .int 0, .int 0, .int 0, .int 0, .ref mq13, .int 0, .ref mq15, .int 0, .ref mq17, .ref mq19, .int (-1), .int 0, .int 0, .int 0, .int 0, .int 0, .ref mq21, .int 0, .ref mq23, .ref mq25, .ref mq27, .int 0, .int 0, .int 0, .ref mq29, .ref mq31, .ref mq33, .long 0, .ref mq35, .ref mq37, .ref mq39, .ref mq41])), (mq19, .inl (mk20, 100, .inl (fun _ => 0)))]) hD hS hA [0, 1] rfl
  refine va_calli (va_runV (As := [.int z1, .int z2]) (rest := [.int (-1)]) ⟨hx, hb, hml, hown, hq⟩ (c_M_tell l dC dI _ mo mq1 mq3 mq5 mq7 mq9 mq11 mq13 mq15 mq17 mq19 mq21 mq23 mq25 mq27 mq29 mq31 mq33 mq35 mq37 mq39 mq41 mk20 z1 z2 ) (cwV 2 hq (gV qw_1611 qw_1612 qw_1613 qw_131 qw_1614) rfl rfl rfl (by decide +kernel) ⟨Nat.le_of_ble_eq_true rfl, Nat.le_of_ble_eq_true rfl⟩) ⟨fun a U g mk q => by obtain ⟨q0, q1, qP, qK, qD, qE⟩ := q; exact ⟨q0, q1, qP, va_K.moved (u := U) (U := U.calling g mk a) (Vm.Alike.refl U.vm) qK, qD, xE.same rfl qE⟩, va_recv hKc hPc (ci := 12) (q0 := 0) rfl rfl, fun U hU hW => ⟨rfl, by rw [hU], by rw [hU]; exact hPc, va_K.moved hW.alike hKc, hDc.weaken (fun _ _ _ _ => trivial), xE.warm hW hE⟩⟩ rfl rfl hl.1 rfl (lv_room (Nat.le_of_ble_eq_true rfl)) dL_law_546 ⟨Nat.le_of_ble_eq_true rfl, Nat.le_of_ble_eq_true rfl⟩) hS (fun q _ h => hFc q h) hFc (fun r_6 u t H1 locs ht hvm hw hB hz1 hk1 hS => ?_)
  have hP1 : va_P (dC, dI) classes [] H1 := vP_nil
  have hD1 : va_D (va_A [(mo, .inr (12, [.ref mq1, .int 0, .int 0, .ref mq3, .ref mq5, .ref mq7, .ref mq9, .ref mq11, .int 0, .int 0, .int 0, .int 0, .int 0, .int 0, .int 0, .ref mq13, .int 0, .ref mq15, .int 0, .ref mq17, .ref mq19, .int (-1), .int 0, .int 0, .int 0, .int 0, .int 0, .ref mq21, .int 0, .ref mq23, .ref mq25, .ref mq27, .int 0, .int 0, .int 0, .ref mq29, .ref mq31, .ref mq33, .long 0, .ref mq35, .ref mq37, .ref mq39, .ref mq41])), (mq19, .inl (mk20, 100, .inl (fun _ => 0)))] H.size) [] := vD_nil
  obtain ⟨hP, hD⟩ := va_join (wr := []) (w1 := []) hP hD [0, 1] [] rfl rfl (by decide) (by decide) hk1 hFc hP1 hD1
  generalize H1 = H at hP hS ⊢
  have hP : va_P (dC, dI) classes [] H := hP
  have hD : va_D A [] := hD
  obtain rfl : r_6 = (-1) := hw
  refine lv_icmp_eq (tgt := 1210) hx hb dL_law_549 (by decide) (fun _ => ?_) (fun c9 => absurd c9 (by decide))
  exact law_end C0 hAq hS (lv_sub hl [0, 1, 2, 3] rfl)
set_option maxHeartbeats 4000000 in
set_option maxRecDepth 100000 in
/-- undo, the first call -/
theorem law_14 {p : Program} {l : Launch} {e : Env} {s : State} {m : MethodId} {below : List Frame} {meth : Method} {c : Code} {A : Nat → Prop} {kA vA : Nat → Nat} {dC : Nat → ClassId} {dI : Nat → Nat → Nat} {b : Nat} {xs : Nat → Int32} {xo : Nat} {mo : Nat} {xq1 : Nat} {xq3 : Nat} {xq7 : Nat} {xq12 : Nat} {xq14 : Nat} {xq24 : Nat} {xq34 : Nat} {xq36 : Nat} {xq38 : Nat} {xq48 : Nat} {xq51 : Nat} {xq53 : Nat} {xq55 : Nat} {xq57 : Nat} {xq59 : Nat} {xq50 : Nat} {mq1 : Nat} {mq3 : Nat} {mq5 : Nat} {mq7 : Nat} {mq9 : Nat} {mq11 : Nat} {mq13 : Nat} {mq15 : Nat} {mq17 : Nat} {mq19 : Nat} {mq21 : Nat} {mq23 : Nat} {mq25 : Nat} {mq27 : Nat} {mq29 : Nat} {mq31 : Nat} {mq33 : Nat} {mq35 : Nat} {mq37 : Nat} {mq39 : Nat} {mq41 : Nat} (C0 : lw_At p s m meth c b 6 xs) (hA : ∀ q : Nat, s.heap.size ≤ q → A q) (hAq : ∀ q : Nat, A q → s.heap.size ≤ q) (hE : xE s) (hT : xT kA vA A s s.heap) (hK : va_K (dC, dI) classes [] s) {H : Heap} {locs : List Loc} (hP : va_P (dC, dI) classes [(xo, .inr (11, [.ref xq1, .int 0, .ref xq3, .ref xq7, .ref xq12, .int 0, .int (-1), .ref xq14, .ref xq24, .ref xq34, .ref xq36, .ref xq38, .ref xq48, .ref xq51, .ref xq53, .ref xq55, .ref xq57, .ref xq59, .int 0])), (xq48, .inr (6, [.ref xq50, .int 0, .int 0])), (mo, .inr (12, [.ref mq1, .int 0, .int 0, .ref mq3, .ref mq5, .ref mq7, .ref mq9, .ref mq11, .int 0, .int 0, .int 0, .int 0, .int 0, .int 0, .int 0, .ref mq13, .int 0, .ref mq15, .int 0, .ref mq17, .ref mq19, .int (-1), .int 0, .int 0, .int 0, .int 0, .int 0, .ref mq21, .int 0, .ref mq23, .ref mq25, .ref mq27, .int 0, .int 0, .int 0, .ref mq29, .ref mq31, .ref mq33, .long 0, .ref mq35, .ref mq37, .ref mq39, .ref mq41]))] H) (hD : va_D A [(xo, .inr (11, [.ref xq1, .int 0, .ref xq3, .ref xq7, .ref xq12, .int 0, .int (-1), .ref xq14, .ref xq24, .ref xq34, .ref xq36, .ref xq38, .ref xq48, .ref xq51, .ref xq53, .ref xq55, .ref xq57, .ref xq59, .int 0])), (xq48, .inr (6, [.ref xq50, .int 0, .int 0])), (mo, .inr (12, [.ref mq1, .int 0, .int 0, .ref mq3, .ref mq5, .ref mq7, .ref mq9, .ref mq11, .int 0, .int 0, .int 0, .int 0, .int 0, .int 0, .int 0, .ref mq13, .int 0, .ref mq15, .int 0, .ref mq17, .ref mq19, .int (-1), .int 0, .int 0, .int 0, .int 0, .int 0, .ref mq21, .int 0, .ref mq23, .ref mq25, .ref mq27, .int 0, .int 0, .int 0, .ref mq29, .ref mq31, .ref mq33, .long 0, .ref mq35, .ref mq37, .ref mq39, .ref mq41]))]) (hS : va_S A s.heap H locs) {ls : Array Slot} (hl : lv_has ls 4 [(3, .int 0), (2, .ref mo), (1, .ref xo), (0, .ref b)]) : W p l e room_1 s m #[Value.ref b] below meth c H locs 152 8829 (lw_Z below #[Value.ref b] s) (F0 m 554 ls []) := by
  obtain ⟨hx, hb, hr, hml, hown, hts, hX, hbl, hlocks, hgv⟩ := id C0
  have hown : s.vm.findClass RL = some m.cls := hown
  have hq : ∀ w ∈ wsA, w.before _ s = true := fun w h => hts w (List.mem_filter.mp h).1
  have hbA : ¬ A b := fun h => Nat.not_le.mpr hbl (hAq b h)
  refine lv_aload_n hx hb dL_law_554 rfl (lv_at hl 2 rfl) ?_
  have hPc := hP.sub (ws' := [(xo, .inr (11, [.ref xq1, .int 0, .ref xq3, .ref xq7, .ref xq12, .int 0, .int (-1), .ref xq14, .ref xq24, .ref xq34, .ref xq36, .ref xq38, .ref xq48, .ref xq51, .ref xq53, .ref xq55, .ref xq57, .ref xq59, .int 0])), (xq48, .inr (6, [.ref xq50, .int 0, .int 0]))]) [0, 1] rfl
  have hDc := hD.sub (ws' := [(xo, .inr (11, [.ref xq1, .int 0, .ref xq3, .ref xq7, .ref xq12, .int 0, .int (-1), .ref xq14, .ref xq24, .ref xq34, .ref xq36, .ref xq38, .ref xq48, .ref xq51, .ref xq53, .ref xq55, .ref xq57, .ref xq59, .int 0])), (xq48, .inr (6, [.ref xq50, .int 0, .int 0]))]) [0, 1] (by decide) rfl
  have hKc := hK.sub (tys' := []) [] rfl
  have hFc := va_free (wc := [(xo, .inr (11, [.ref xq1, .int 0, .ref xq3, .ref xq7, .ref xq12, .int 0, .int (-1), .ref xq14, .ref xq24, .ref xq34, .ref xq36, .ref xq38, .ref xq48, .ref xq51, .ref xq53, .ref xq55, .ref xq57, .ref xq59, .int 0])), (xq48, .inr (6, [.ref xq50, .int 0, .int 0]))]) hD hS hA [0, 1] rfl
  refine va_calli (va_runV (As := []) (rest := []) ⟨hx, hb, hml, hown, hq⟩ (c_SB_undo l dC dI _ xo xq1 xq3 xq7 xq12 xq14 xq24 xq34 xq36 xq38 xq48 xq51 xq53 xq55 xq57 xq59 xq50 ) (cwV 0 hq (gV qw_913 qw_914 qw_915 qw_119 qw_916) rfl rfl rfl (by decide +kernel) ⟨Nat.le_of_ble_eq_true rfl, Nat.le_of_ble_eq_true rfl⟩) ⟨fun a U g mk q => by obtain ⟨q0, q1, qP, qK, qD, qE⟩ := q; exact ⟨q0, q1, qP, va_K.moved (u := U) (U := U.calling g mk a) (Vm.Alike.refl U.vm) qK, qD, xE.same rfl qE⟩, va_recv hKc hPc (ci := 11) (q0 := 0) rfl rfl, fun U hU hW => ⟨rfl, by rw [hU], by rw [hU]; exact hPc, va_K.moved hW.alike hKc, hDc.weaken (fun _ _ _ _ => trivial), xE.warm hW hE⟩⟩ rfl rfl hl.1 rfl (lv_room (Nat.le_of_ble_eq_true rfl)) dL_law_555 ⟨Nat.le_of_ble_eq_true rfl, Nat.le_of_ble_eq_true rfl⟩) hS (fun q _ h => hFc q h) hFc (fun r_1 u t H1 locs ht hvm hw hB hz1 hk1 hS => ?_)
  have hP1 : va_P (dC, dI) classes [] H1 := vP_nil
  have hD1 : va_D (va_A [(xo, .inr (11, [.ref xq1, .int 0, .ref xq3, .ref xq7, .ref xq12, .int 0, .int (-1), .ref xq14, .ref xq24, .ref xq34, .ref xq36, .ref xq38, .ref xq48, .ref xq51, .ref xq53, .ref xq55, .ref xq57, .ref xq59, .int 0])), (xq48, .inr (6, [.ref xq50, .int 0, .int 0]))] H.size) [] := vD_nil
  obtain ⟨hP, hD⟩ := va_join (wr := [(mo, .inr (12, [.ref mq1, .int 0, .int 0, .ref mq3, .ref mq5, .ref mq7, .ref mq9, .ref mq11, .int 0, .int 0, .int 0, .int 0, .int 0, .int 0, .int 0, .ref mq13, .int 0, .ref mq15, .int 0, .ref mq17, .ref mq19, .int (-1), .int 0, .int 0, .int 0, .int 0, .int 0, .ref mq21, .int 0, .ref mq23, .ref mq25, .ref mq27, .int 0, .int 0, .int 0, .ref mq29, .ref mq31, .ref mq33, .long 0, .ref mq35, .ref mq37, .ref mq39, .ref mq41]))]) (w1 := []) hP hD [0, 1] [2] rfl rfl (by decide) (by decide) hk1 hFc hP1 hD1
  generalize H1 = H at hP hS ⊢
  have hP : va_P (dC, dI) classes [(mo, .inr (12, [.ref mq1, .int 0, .int 0, .ref mq3, .ref mq5, .ref mq7, .ref mq9, .ref mq11, .int 0, .int 0, .int 0, .int 0, .int 0, .int 0, .int 0, .ref mq13, .int 0, .ref mq15, .int 0, .ref mq17, .ref mq19, .int (-1), .int 0, .int 0, .int 0, .int 0, .int 0, .ref mq21, .int 0, .ref mq23, .ref mq25, .ref mq27, .int 0, .int 0, .int 0, .ref mq29, .ref mq31, .ref mq33, .long 0, .ref mq35, .ref mq37, .ref mq39, .ref mq41]))] H := hP
  have hD : va_D A [(mo, .inr (12, [.ref mq1, .int 0, .int 0, .ref mq3, .ref mq5, .ref mq7, .ref mq9, .ref mq11, .int 0, .int 0, .int 0, .int 0, .int 0, .int 0, .int 0, .ref mq13, .int 0, .ref mq15, .int 0, .ref mq17, .ref mq19, .int (-1), .int 0, .int 0, .int 0, .int 0, .int 0, .ref mq21, .int 0, .ref mq23, .ref mq25, .ref mq27, .int 0, .int 0, .int 0, .ref mq29, .ref mq31, .ref mq33, .long 0, .ref mq35, .ref mq37, .ref mq39, .ref mq41]))] := hD
  obtain rfl : r_1 = (-1) := hw
  refine lv_aload_n hx hb dL_law_558 rfl (lv_at hl 1 rfl) ?_
  have hPc := hP.sub (ws' := [(mo, .inr (12, [.ref mq1, .int 0, .int 0, .ref mq3, .ref mq5, .ref mq7, .ref mq9, .ref mq11, .int 0, .int 0, .int 0, .int 0, .int 0, .int 0, .int 0, .ref mq13, .int 0, .ref mq15, .int 0, .ref mq17, .ref mq19, .int (-1), .int 0, .int 0, .int 0, .int 0, .int 0, .ref mq21, .int 0, .ref mq23, .ref mq25, .ref mq27, .int 0, .int 0, .int 0, .ref mq29, .ref mq31, .ref mq33, .long 0, .ref mq35, .ref mq37, .ref mq39, .ref mq41]))]) [0] rfl
  have hDc := hD.sub (ws' := [(mo, .inr (12, [.ref mq1, .int 0, .int 0, .ref mq3, .ref mq5, .ref mq7, .ref mq9, .ref mq11, .int 0, .int 0, .int 0, .int 0, .int 0, .int 0, .int 0, .ref mq13, .int 0, .ref mq15, .int 0, .ref mq17, .ref mq19, .int (-1), .int 0, .int 0, .int 0, .int 0, .int 0, .ref mq21, .int 0, .ref mq23, .ref mq25, .ref mq27, .int 0, .int 0, .int 0, .ref mq29, .ref mq31, .ref mq33, .long 0, .ref mq35, .ref mq37, .ref mq39, .ref mq41]))]) [0] (by decide) rfl
  have hKc := hK.sub (tys' := []) [] rfl
  have hFc := va_free (wc := [(mo, .inr (12, [.ref mq1, .int 0, .int 0, .ref mq3, .ref mq5, .ref mq7, .ref mq9, .ref mq11, .int 0, .int 0, .int 0, .int 0, .int 0, .int 0, .int 0, .ref mq13, .int 0, .ref mq15, .int 0, .ref mq17, .ref mq19, .int (-1), .int 0, .int 0, .int 0, .int 0, .int 0, .ref mq21, .int 0, .ref mq23, .ref mq25, .ref mq27, .int 0, .int 0, .int 0, .ref mq29, .ref mq31, .ref mq33, .long 0, .ref mq35, .ref mq37, .ref mq39, .ref mq41]))]) hD hS hA [0] rfl
  refine va_calli (va_runV (As := []) (rest := [.int (-1)]) ⟨hx, hb, hml, hown, hq⟩ (c_M_undo l dC dI _ mo mq1 mq3 mq5 mq7 mq9 mq11 mq13 mq15 mq17 mq19 mq21 mq23 mq25 mq27 mq29 mq31 mq33 mq35 mq37 mq39 mq41 ) (cwV 0 hq (gV qw_1510 qw_1511 qw_1512 qw_131 qw_1513) rfl rfl rfl (by decide +kernel) ⟨Nat.le_of_ble_eq_true rfl, Nat.le_of_ble_eq_true rfl⟩) ⟨fun a U g mk q => by obtain ⟨q0, q1, qP, qK, qD, qE⟩ := q; exact ⟨q0, q1, qP, va_K.moved (u := U) (U := U.calling g mk a) (Vm.Alike.refl U.vm) qK, qD, xE.same rfl qE⟩, va_recv hKc hPc (ci := 12) (q0 := 0) rfl rfl, fun U hU hW => ⟨rfl, by rw [hU], by rw [hU]; exact hPc, va_K.moved hW.alike hKc, hDc.weaken (fun _ _ _ _ => trivial), xE.warm hW hE⟩⟩ rfl rfl hl.1 rfl (lv_room (Nat.le_of_ble_eq_true rfl)) dL_law_559 ⟨Nat.le_of_ble_eq_true rfl, Nat.le_of_ble_eq_true rfl⟩) hS (fun q _ h => hFc q h) hFc (fun r_2 u t H1 locs ht hvm hw hB hz1 hk1 hS => ?_)
  have hP1 : va_P (dC, dI) classes [] H1 := vP_nil
  have hD1 : va_D (va_A [(mo, .inr (12, [.ref mq1, .int 0, .int 0, .ref mq3, .ref mq5, .ref mq7, .ref mq9, .ref mq11, .int 0, .int 0, .int 0, .int 0, .int 0, .int 0, .int 0, .ref mq13, .int 0, .ref mq15, .int 0, .ref mq17, .ref mq19, .int (-1), .int 0, .int 0, .int 0, .int 0, .int 0, .ref mq21, .int 0, .ref mq23, .ref mq25, .ref mq27, .int 0, .int 0, .int 0, .ref mq29, .ref mq31, .ref mq33, .long 0, .ref mq35, .ref mq37, .ref mq39, .ref mq41]))] H.size) [] := vD_nil
  obtain ⟨hP, hD⟩ := va_join (wr := []) (w1 := []) hP hD [0] [] rfl rfl (by decide) (by decide) hk1 hFc hP1 hD1
  generalize H1 = H at hP hS ⊢
  have hP : va_P (dC, dI) classes [] H := hP
  have hD : va_D A [] := hD
  obtain rfl : r_2 = (-1) := hw
  refine lv_icmp_eq (tgt := 1210) hx hb dL_law_562 (by decide) (fun _ => ?_) (fun c9 => absurd c9 (by decide))
  exact law_end C0 hAq hS (lv_sub hl [0, 1, 2, 3] rfl)
set_option maxHeartbeats 4000000 in
set_option maxRecDepth 100000 in
/-- ahead, the first call -/
theorem law_15 {p : Program} {l : Launch} {e : Env} {s : State} {m : MethodId} {below : List Frame} {meth : Method} {c : Code} {A : Nat → Prop} {kA vA : Nat → Nat} {dC : Nat → ClassId} {dI : Nat → Nat → Nat} {b : Nat} {xs : Nat → Int32} {xo : Nat} {mo : Nat} {xq1 : Nat} {xq3 : Nat} {xq7 : Nat} {xq12 : Nat} {xq14 : Nat} {xq24 : Nat} {xq34 : Nat} {xq36 : Nat} {xq38 : Nat} {xq48 : Nat} {xq51 : Nat} {xq53 : Nat} {xq55 : Nat} {xq57 : Nat} {xq59 : Nat} {xq16 : Nat} {xq17 : Nat} {xq18 : Nat} {xq19 : Nat} {mq1 : Nat} {mq3 : Nat} {mq5 : Nat} {mq7 : Nat} {mq9 : Nat} {mq11 : Nat} {mq13 : Nat} {mq15 : Nat} {mq17 : Nat} {mq19 : Nat} {mq21 : Nat} {mq23 : Nat} {mq25 : Nat} {mq27 : Nat} {mq29 : Nat} {mq31 : Nat} {mq33 : Nat} {mq35 : Nat} {mq37 : Nat} {mq39 : Nat} {mq41 : Nat} {mk20 : ClassId} (C0 : lw_At p s m meth c b 6 xs) (hA : ∀ q : Nat, s.heap.size ≤ q → A q) (hAq : ∀ q : Nat, A q → s.heap.size ≤ q) (hE : xE s) (hT : xT kA vA A s s.heap) (hK : va_K (dC, dI) classes [(mk20, .int)] s) {H : Heap} {locs : List Loc} (hP : va_P (dC, dI) classes [(xo, .inr (11, [.ref xq1, .int 0, .ref xq3, .ref xq7, .ref xq12, .int 0, .int (-1), .ref xq14, .ref xq24, .ref xq34, .ref xq36, .ref xq38, .ref xq48, .ref xq51, .ref xq53, .ref xq55, .ref xq57, .ref xq59, .int 0])), (xq14, .inr (1, [.int 0, .int 0, .int 0, .ref xq16, .ref xq17, .ref xq18, .ref xq19])), (mo, .inr (12, [.ref mq1, .int 0, .int 0, .ref mq3, .ref mq5, .ref mq7, .ref mq9, .ref mq11, .int 0, .int 0, .int 0, .int 0, .int 0, .int 0, .int 0, .ref mq13, .int 0, .ref mq15, .int 0, .ref mq17, .ref mq19, .int (-1), .int 0, .int 0, .int 0, .int 0, .int 0, .ref mq21, .int 0, .ref mq23, .ref mq25, .ref mq27, .int 0, .int 0, .int 0, .ref mq29, .ref mq31, .ref mq33, .long 0, .ref mq35, .ref mq37, .ref mq39, .ref mq41])), (mq19, .inl (mk20, 100, .inl (fun _ => 0)))] H) (hD : va_D A [(xo, .inr (11, [.ref xq1, .int 0, .ref xq3, .ref xq7, .ref xq12, .int 0, .int (-1), .ref xq14, .ref xq24, .ref xq34, .ref xq36, .ref xq38, .ref xq48, .ref xq51, .ref xq53, .ref xq55, .ref xq57, .ref xq59, .int 0])), (xq14, .inr (1, [.int 0, .int 0, .int 0, .ref xq16, .ref xq17, .ref xq18, .ref xq19])), (mo, .inr (12, [.ref mq1, .int 0, .int 0, .ref mq3, .ref mq5, .ref mq7, .ref mq9, .ref mq11, .int 0, .int 0, .int 0, .int 0, .int 0, .int 0, .int 0, .ref mq13, .int 0, .ref mq15, .int 0, .ref mq17, .ref mq19, .int (-1), .int 0, .int 0, .int 0, .int 0, .int 0, .ref mq21, .int 0, .ref mq23, .ref mq25, .ref mq27, .int 0, .int 0, .int 0, .ref mq29, .ref mq31, .ref mq33, .long 0, .ref mq35, .ref mq37, .ref mq39, .ref mq41])), (mq19, .inl (mk20, 100, .inl (fun _ => 0)))]) (hS : va_S A s.heap H locs) {ls : Array Slot} (hl : lv_has ls 4 [(3, .int 0), (2, .ref mo), (1, .ref xo), (0, .ref b)]) : W p l e room_1 s m #[Value.ref b] below meth c H locs 152 8829 (lw_Z below #[Value.ref b] s) (F0 m 567 ls []) := by
  obtain ⟨hx, hb, hr, hml, hown, hts, hX, hbl, hlocks, hgv⟩ := id C0
  have hown : s.vm.findClass RL = some m.cls := hown
  have hq : ∀ w ∈ wsA, w.before _ s = true := fun w h => hts w (List.mem_filter.mp h).1
  have hbA : ¬ A b := fun h => Nat.not_le.mpr hbl (hAq b h)
  obtain ⟨z1, ez1⟩ : ∃ z : Int32, z = xs 1 := ⟨_, rfl⟩
  obtain ⟨z2, ez2⟩ : ∃ z : Int32, z = xs 2 := ⟨_, rfl⟩
  obtain ⟨z3, ez3⟩ : ∃ z : Int32, z = xs 3 := ⟨_, rfl⟩
  refine lv_aload_n hx hb dL_law_567 rfl (lv_at hl 2 rfl) ?_
  refine lv_aload_n hx hb dL_law_568 rfl (lv_at hl 3 rfl) ?_
  refine lv_iload_n hx hb dL_law_569 rfl (lv_at hl 0 rfl) ?_
  refine lv_iconst (v := 1) hx hb dL_law_570 (by decide) ?_
  refine lv_iadd hx hb dL_law_571 ?_
  refine lv_topi (fun y_1 ey_1 => ?_)
  obtain rfl : y_1 = 1 := ey_1.trans (by decide)
  refine va_sld hx hb hX hbl hbA hS (inr_ok rfl) dL_law_572 ?_
  refine W.eq (g2 := F0 m 573 ls [.int z1, .ref xo]) (by rw [ez1]; rfl) ?_
  refine lv_aload_n hx hb dL_law_573 rfl (lv_at hl 3 rfl) ?_
  refine lv_iload_n hx hb dL_law_574 rfl (lv_at hl 0 rfl) ?_
  refine lv_iconst (v := 2) hx hb dL_law_575 (by decide) ?_
  refine lv_iadd hx hb dL_law_576 ?_
  refine lv_topi (fun y_2 ey_2 => ?_)
  obtain rfl : y_2 = 2 := ey_2.trans (by decide)
  refine va_sld hx hb hX hbl hbA hS (inr_ok rfl) dL_law_577 ?_
  refine W.eq (g2 := F0 m 578 ls [.int z2, .int z1, .ref xo]) (by rw [ez2]; rfl) ?_
  refine lv_aload_n hx hb dL_law_578 rfl (lv_at hl 3 rfl) ?_
  refine lv_iload_n hx hb dL_law_579 rfl (lv_at hl 0 rfl) ?_
  refine lv_iconst (v := 3) hx hb dL_law_580 (by decide) ?_
  refine lv_iadd hx hb dL_law_581 ?_
  refine lv_topi (fun y_3 ey_3 => ?_)
  obtain rfl : y_3 = 3 := ey_3.trans (by decide)
  refine va_sld hx hb hX hbl hbA hS (inr_ok rfl) dL_law_582 ?_
  refine W.eq (g2 := F0 m 583 ls [.int z3, .int z2, .int z1, .ref xo]) (by rw [ez3]; rfl) ?_
  have hPc := hP.sub (ws' := [(xo, .inr (11, [.ref xq1, .int 0, .ref xq3, .ref xq7, .ref xq12, .int 0, .int (-1), .ref xq14, .ref xq24, .ref xq34, .ref xq36, .ref xq38, .ref xq48, .ref xq51, .ref xq53, .ref xq55, .ref xq57, .ref xq59, .int 0])), (xq14, .inr (1, [.int 0, .int 0, .int 0, .ref xq16, .ref xq17, .ref xq18, .ref xq19]))]) [0, 1] rfl
  have hDc := hD.sub (ws' := [(xo, .inr (11, [.ref xq1, .int 0, .ref xq3, .ref xq7, .ref xq12, .int 0, .int (-1), .ref xq14, .ref xq24, .ref xq34, .ref xq36, .ref xq38, .ref xq48, .ref xq51, .ref xq53, .ref xq55, .ref xq57, .ref xq59, .int 0])), (xq14, .inr (1, [.int 0, .int 0, .int 0, .ref xq16, .ref xq17, .ref xq18, .ref xq19]))]) [0, 1] (by decide) rfl
  have hKc := hK.sub (tys' := []) [] rfl
  have hFc := va_free (wc := [(xo, .inr (11, [.ref xq1, .int 0, .ref xq3, .ref xq7, .ref xq12, .int 0, .int (-1), .ref xq14, .ref xq24, .ref xq34, .ref xq36, .ref xq38, .ref xq48, .ref xq51, .ref xq53, .ref xq55, .ref xq57, .ref xq59, .int 0])), (xq14, .inr (1, [.int 0, .int 0, .int 0, .ref xq16, .ref xq17, .ref xq18, .ref xq19]))]) hD hS hA [0, 1] rfl
  refine va_calli (va_runV (As := [.int z1, .int z2, .int z3]) (rest := []) ⟨hx, hb, hml, hown, hq⟩ (c_SB_ahead l dC dI _ xo xq1 xq3 xq7 xq12 xq14 xq24 xq34 xq36 xq38 xq48 xq51 xq53 xq55 xq57 xq59 xq16 xq17 xq18 xq19 z1 z2 z3 ) (cwV 3 hq (gV qw_921 qw_922 qw_923 qw_119 qw_924) rfl rfl rfl (by decide +kernel) ⟨Nat.le_of_ble_eq_true rfl, Nat.le_of_ble_eq_true rfl⟩) ⟨fun a U g mk q => by obtain ⟨q0, q1, qP, qK, qD, qE⟩ := q; exact ⟨q0, q1, qP, va_K.moved (u := U) (U := U.calling g mk a) (Vm.Alike.refl U.vm) qK, qD, xE.same rfl qE⟩, va_recv hKc hPc (ci := 11) (q0 := 0) rfl rfl, fun U hU hW => ⟨rfl, by rw [hU], by rw [hU]; exact hPc, va_K.moved hW.alike hKc, hDc.weaken (fun _ _ _ _ => trivial), xE.warm hW hE⟩⟩ rfl rfl hl.1 rfl (lv_room (Nat.le_of_ble_eq_true rfl)) dL_law_583 ⟨Nat.le_of_ble_eq_true rfl, Nat.le_of_ble_eq_true rfl⟩) hS (fun q _ h => hFc q h) hFc (fun r_4 u t H1 locs ht hvm hw hB hz1 hk1 hS => ?_)
  have hP1 : va_P (dC, dI) classes [] H1 := vP_nil
  have hD1 : va_D (va_A [(xo, .inr (11, [.ref xq1, .int 0, .ref xq3, .ref xq7, .ref xq12, .int 0, .int (-1), .ref xq14, .ref xq24, .ref xq34, .ref xq36, .ref xq38, .ref xq48, .ref xq51, .ref xq53, .ref xq55, .ref xq57, .ref xq59, .int 0])), (xq14, .inr (1, [.int 0, .int 0, .int 0, .ref xq16, .ref xq17, .ref xq18, .ref xq19]))] H.size) [] := vD_nil
  obtain ⟨hP, hD⟩ := va_join (wr := [(mo, .inr (12, [.ref mq1, .int 0, .int 0, .ref mq3, .ref mq5, .ref mq7, .ref mq9, .ref mq11, .int 0, .int 0, .int 0, .int 0, .int 0, .int 0, .int 0, .ref mq13, .int 0, .ref mq15, .int 0, .ref mq17, .ref mq19, .int (-1), .int 0, .int 0, .int 0, .int 0, .int 0, .ref mq21, .int 0, .ref mq23, .ref mq25, .ref mq27, .int 0, .int 0, .int 0, .ref mq29, .ref mq31, .ref mq33, .long 0, .ref mq35, .ref mq37, .ref mq39, .ref mq41])), (mq19, .inl (mk20, 100, .inl (fun _ => 0)))]) (w1 := []) hP hD [0, 1] [2, 3] rfl rfl (by decide) (by decide) hk1 hFc hP1 hD1
  generalize H1 = H at hP hS ⊢
  have hP : va_P (dC, dI) classes [(mo, .inr (12, [.ref mq1, .int 0, .int 0, .ref mq3, .ref mq5, .ref mq7, .ref mq9, .ref mq11, .int 0, .int 0, .int 0, .int 0, .int 0, .int 0, .int 0, .ref mq13, .int 0, .ref mq15, .int 0, .ref mq17, .ref mq19, .int (-1), .int 0, .int 0, .int 0, .int 0, .int 0, .ref mq21, .int 0, .ref mq23, .ref mq25, .ref mq27, .int 0, .int 0, .int 0, .ref mq29, .ref mq31, .ref mq33, .long 0, .ref mq35, .ref mq37, .ref mq39, .ref mq41])), (mq19, .inl (mk20, 100, .inl (fun _ => 0)))] H := hP
  have hD : va_D A [(mo, .inr (12, [.ref mq1, .int 0, .int 0, .ref mq3, .ref mq5, .ref mq7, .ref mq9, .ref mq11, .int 0, .int 0, .int 0, .int 0, .int 0, .int 0, .int 0, .ref mq13, .int 0, .ref mq15, .int 0, .ref mq17, .ref mq19, .int (-1), .int 0, .int 0, .int 0, .int 0, .int 0, .ref mq21, .int 0, .ref mq23, .ref mq25, .ref mq27, .int 0, .int 0, .int 0, .ref mq29, .ref mq31, .ref mq33, .long 0, .ref mq35, .ref mq37, .ref mq39, .ref mq41])), (mq19, .inl (mk20, 100, .inl (fun _ => 0)))] := hD
  obtain rfl : r_4 = (-1) := hw
  refine lv_aload_n hx hb dL_law_586 rfl (lv_at hl 1 rfl) ?_
  refine lv_aload_n hx hb dL_law_587 rfl (lv_at hl 3 rfl) ?_
  refine lv_iload_n hx hb dL_law_588 rfl (lv_at hl 0 rfl) ?_
  refine lv_iconst (v := 1) hx hb dL_law_589 (by decide) ?_
  refine lv_iadd hx hb dL_law_590 ?_
  refine lv_topi (fun y_5 ey_5 => ?_)
  obtain rfl : y_5 = 1 := ey_5.trans (by decide)
  refine va_sld hx hb hX hbl hbA hS (inr_ok rfl) dL_law_591 ?_
  refine W.eq (g2 := F0 m 592 ls [.int z1, .ref mo, .int (-1)]) (by rw [ez1]; rfl) ?_
  refine lv_aload_n hx hb dL_law_592 rfl (lv_at hl 3 rfl) ?_
  refine lv_iload_n hx hb dL_law_593 rfl (lv_at hl 0 rfl) ?_
  refine lv_iconst (v := 2) hx hb dL_law_594 (by decide) ?_
  refine lv_iadd hx hb dL_law_595 ?_
  refine lv_topi (fun y_6 ey_6 => ?_)
  obtain rfl : y_6 = 2 := ey_6.trans (by decide)
  refine va_sld hx hb hX hbl hbA hS (inr_ok rfl) dL_law_596 ?_
  refine W.eq (g2 := F0 m 597 ls [.int z2, .int z1, .ref mo, .int (-1)]) (by rw [ez2]; rfl) ?_
  refine lv_aload_n hx hb dL_law_597 rfl (lv_at hl 3 rfl) ?_
  refine lv_iload_n hx hb dL_law_598 rfl (lv_at hl 0 rfl) ?_
  refine lv_iconst (v := 3) hx hb dL_law_599 (by decide) ?_
  refine lv_iadd hx hb dL_law_600 ?_
  refine lv_topi (fun y_7 ey_7 => ?_)
  obtain rfl : y_7 = 3 := ey_7.trans (by decide)
  refine va_sld hx hb hX hbl hbA hS (inr_ok rfl) dL_law_601 ?_
  refine W.eq (g2 := F0 m 602 ls [.int z3, .int z2, .int z1, .ref mo, .int (-1)]) (by rw [ez3]; rfl) ?_
  have hPc := hP.sub (ws' := [(mo, .inr (12, [.ref mq1, .int 0, .int 0, .ref mq3, .ref mq5, .ref mq7, .ref mq9, .ref mq11, .int 0, .int 0, .int 0, .int 0, .int 0, .int 0, .int 0, .ref mq13, .int 0, .ref mq15, .int 0, .ref mq17, .ref mq19, .int (-1), .int 0, .int 0, .int 0, .int 0, .int 0, .ref mq21, .int 0, .ref mq23, .ref mq25, .ref mq27, .int 0, .int 0, .int 0, .ref mq29, .ref mq31, .ref mq33, .long 0, .ref mq35, .ref mq37, .ref mq39, .ref mq41])), (mq19, .inl (mk20, 100, .inl (fun _ => 0)))]) [0, 1] rfl
  have hDc := hD.sub (ws' := [(mo, .inr (12, [.ref mq1, .int 0, .int 0, .ref mq3, .ref mq5, .ref mq7, .ref mq9, .ref mq11, .int 0, .int 0, .int 0, .int 0, .int 0, .int 0, .int 0, .ref mq13, .int 0, .ref mq15, .int 0, .ref mq17, .ref mq19, .int (-1), .int 0, .int 0, .int 0, .int 0, .int 0, .ref mq21, .int 0, .ref mq23, .ref mq25, .ref mq27, .int 0, .int 0, .int 0, .ref mq29, .ref mq31, .ref mq33, .long 0, .ref mq35, .ref mq37, .ref mq39, .ref mq41])), (mq19, .inl (mk20, 100, .inl (fun _ => 0)))]) [0, 1] (by decide) rfl
  have hKc := hK.sub (tys' := [(mk20, .int)]) [0] rfl
  have hFc := va_free (wc := [(mo, .inr (12, [.ref mq1, .int 0, .int 0, .ref mq3, .ref mq5, .ref mq7, .ref mq9, .ref mq11, .int 0, .int 0, .int 0, .int 0, .int 0, .int 0, .int 0, .ref mq13, .int 0, .ref mq15, .int 0, .ref mq17, .ref mq19, .int (-1), .int 0, .int 0, .int 0, .int 0, .int 0, .ref mq21, .int 0, .ref mq23, .ref mq25, .ref mq27, .int 0, .int 0, .int 0, .ref mq29, .ref mq31, .ref mq33, .long 0, .ref mq35, .ref mq37, .ref mq39, .ref mq41])), (mq19, .inl (mk20, 100, .inl (fun _ => 0)))]) hD hS hA [0, 1] rfl
  refine va_calli (va_runV (As := [.int z1, .int z2, .int z3]) (rest := [.int (-1)]) ⟨hx, hb, hml, hown, hq⟩ (c_M_ahead l dC dI _ mo mq1 mq3 mq5 mq7 mq9 mq11 mq13 mq15 mq17 mq19 mq21 mq23 mq25 mq27 mq29 mq31 mq33 mq35 mq37 mq39 mq41 mk20 z1 z2 z3 ) (cwV 3 hq (gV qw_1615 qw_1616 qw_1617 qw_131 qw_1618) rfl rfl rfl (by decide +kernel) ⟨Nat.le_of_ble_eq_true rfl, Nat.le_of_ble_eq_true rfl⟩) ⟨fun a U g mk q => by obtain ⟨q0, q1, qP, qK, qD, qE⟩ := q; exact ⟨q0, q1, qP, va_K.moved (u := U) (U := U.calling g mk a) (Vm.Alike.refl U.vm) qK, qD, xE.same rfl qE⟩, va_recv hKc hPc (ci := 12) (q0 := 0) rfl rfl, fun U hU hW => ⟨rfl, by rw [hU], by rw [hU]; exact hPc, va_K.moved hW.alike hKc, hDc.weaken (fun _ _ _ _ => trivial), xE.warm hW hE⟩⟩ rfl rfl hl.1 rfl (lv_room (Nat.le_of_ble_eq_true rfl)) dL_law_602 ⟨Nat.le_of_ble_eq_true rfl, Nat.le_of_ble_eq_true rfl⟩) hS (fun q _ h => hFc q h) hFc (fun r_8 u t H1 locs ht hvm hw hB hz1 hk1 hS => ?_)
  have hP1 : va_P (dC, dI) classes [] H1 := vP_nil
  have hD1 : va_D (va_A [(mo, .inr (12, [.ref mq1, .int 0, .int 0, .ref mq3, .ref mq5, .ref mq7, .ref mq9, .ref mq11, .int 0, .int 0, .int 0, .int 0, .int 0, .int 0, .int 0, .ref mq13, .int 0, .ref mq15, .int 0, .ref mq17, .ref mq19, .int (-1), .int 0, .int 0, .int 0, .int 0, .int 0, .ref mq21, .int 0, .ref mq23, .ref mq25, .ref mq27, .int 0, .int 0, .int 0, .ref mq29, .ref mq31, .ref mq33, .long 0, .ref mq35, .ref mq37, .ref mq39, .ref mq41])), (mq19, .inl (mk20, 100, .inl (fun _ => 0)))] H.size) [] := vD_nil
  obtain ⟨hP, hD⟩ := va_join (wr := []) (w1 := []) hP hD [0, 1] [] rfl rfl (by decide) (by decide) hk1 hFc hP1 hD1
  generalize H1 = H at hP hS ⊢
  have hP : va_P (dC, dI) classes [] H := hP
  have hD : va_D A [] := hD
  obtain rfl : r_8 = (-1) := hw
  refine lv_icmp_eq (tgt := 1210) hx hb dL_law_605 (by decide) (fun _ => ?_) (fun c9 => absurd c9 (by decide))
  exact law_end C0 hAq hS (lv_sub hl [0, 1, 2, 3] rfl)
set_option maxHeartbeats 4000000 in
set_option maxRecDepth 100000 in
/-- said, the first call -/
theorem law_16 {p : Program} {l : Launch} {e : Env} {s : State} {m : MethodId} {below : List Frame} {meth : Method} {c : Code} {A : Nat → Prop} {kA vA : Nat → Nat} {dC : Nat → ClassId} {dI : Nat → Nat → Nat} {b : Nat} {xs : Nat → Int32} {xo : Nat} {mo : Nat} {xq1 : Nat} {xq3 : Nat} {xq7 : Nat} {xq12 : Nat} {xq14 : Nat} {xq24 : Nat} {xq34 : Nat} {xq36 : Nat} {xq38 : Nat} {xq48 : Nat} {xq51 : Nat} {xq53 : Nat} {xq55 : Nat} {xq57 : Nat} {xq59 : Nat} {xq16 : Nat} {xq17 : Nat} {xq18 : Nat} {xq19 : Nat} {mq1 : Nat} {mq3 : Nat} {mq5 : Nat} {mq7 : Nat} {mq9 : Nat} {mq11 : Nat} {mq13 : Nat} {mq15 : Nat} {mq17 : Nat} {mq19 : Nat} {mq21 : Nat} {mq23 : Nat} {mq25 : Nat} {mq27 : Nat} {mq29 : Nat} {mq31 : Nat} {mq33 : Nat} {mq35 : Nat} {mq37 : Nat} {mq39 : Nat} {mq41 : Nat} {mk20 : ClassId} (C0 : lw_At p s m meth c b 6 xs) (hA : ∀ q : Nat, s.heap.size ≤ q → A q) (hAq : ∀ q : Nat, A q → s.heap.size ≤ q) (hE : xE s) (hT : xT kA vA A s s.heap) (hK : va_K (dC, dI) classes [(mk20, .int)] s) {H : Heap} {locs : List Loc} (hP : va_P (dC, dI) classes [(xo, .inr (11, [.ref xq1, .int 0, .ref xq3, .ref xq7, .ref xq12, .int 0, .int (-1), .ref xq14, .ref xq24, .ref xq34, .ref xq36, .ref xq38, .ref xq48, .ref xq51, .ref xq53, .ref xq55, .ref xq57, .ref xq59, .int 0])), (xq14, .inr (1, [.int 0, .int 0, .int 0, .ref xq16, .ref xq17, .ref xq18, .ref xq19])), (mo, .inr (12, [.ref mq1, .int 0, .int 0, .ref mq3, .ref mq5, .ref mq7, .ref mq9, .ref mq11, .int 0, .int 0, .int 0, .int 0, .int 0, .int 0, .int 0, .ref mq13, .int 0, .ref mq15, .int 0, .ref mq17, .ref mq19, .int (-1), .int 0, .int 0, .int 0, .int 0, .int 0, .ref mq21, .int 0, .ref mq23, .ref mq25, .ref mq27, .int 0, .int 0, .int 0, .ref mq29, .ref mq31, .ref mq33, .long 0, .ref mq35, .ref mq37, .ref mq39, .ref mq41])), (mq19, .inl (mk20, 100, .inl (fun _ => 0)))] H) (hD : va_D A [(xo, .inr (11, [.ref xq1, .int 0, .ref xq3, .ref xq7, .ref xq12, .int 0, .int (-1), .ref xq14, .ref xq24, .ref xq34, .ref xq36, .ref xq38, .ref xq48, .ref xq51, .ref xq53, .ref xq55, .ref xq57, .ref xq59, .int 0])), (xq14, .inr (1, [.int 0, .int 0, .int 0, .ref xq16, .ref xq17, .ref xq18, .ref xq19])), (mo, .inr (12, [.ref mq1, .int 0, .int 0, .ref mq3, .ref mq5, .ref mq7, .ref mq9, .ref mq11, .int 0, .int 0, .int 0, .int 0, .int 0, .int 0, .int 0, .ref mq13, .int 0, .ref mq15, .int 0, .ref mq17, .ref mq19, .int (-1), .int 0, .int 0, .int 0, .int 0, .int 0, .ref mq21, .int 0, .ref mq23, .ref mq25, .ref mq27, .int 0, .int 0, .int 0, .ref mq29, .ref mq31, .ref mq33, .long 0, .ref mq35, .ref mq37, .ref mq39, .ref mq41])), (mq19, .inl (mk20, 100, .inl (fun _ => 0)))]) (hS : va_S A s.heap H locs) {ls : Array Slot} (hl : lv_has ls 4 [(3, .int 0), (2, .ref mo), (1, .ref xo), (0, .ref b)]) : W p l e room_1 s m #[Value.ref b] below meth c H locs 152 8829 (lw_Z below #[Value.ref b] s) (F0 m 610 ls []) := by
  obtain ⟨hx, hb, hr, hml, hown, hts, hX, hbl, hlocks, hgv⟩ := id C0
  have hown : s.vm.findClass RL = some m.cls := hown
  have hq : ∀ w ∈ wsA, w.before _ s = true := fun w h => hts w (List.mem_filter.mp h).1
  have hbA : ¬ A b := fun h => Nat.not_le.mpr hbl (hAq b h)
  obtain ⟨z1, ez1⟩ : ∃ z : Int32, z = xs 1 := ⟨_, rfl⟩
  refine lv_aload_n hx hb dL_law_610 rfl (lv_at hl 2 rfl) ?_
  refine lv_aload_n hx hb dL_law_611 rfl (lv_at hl 3 rfl) ?_
  refine lv_iload_n hx hb dL_law_612 rfl (lv_at hl 0 rfl) ?_
  refine lv_iconst (v := 1) hx hb dL_law_613 (by decide) ?_
  refine lv_iadd hx hb dL_law_614 ?_
  refine lv_topi (fun y_1 ey_1 => ?_)
  obtain rfl : y_1 = 1 := ey_1.trans (by decide)
  refine va_sld hx hb hX hbl hbA hS (inr_ok rfl) dL_law_615 ?_
  refine W.eq (g2 := F0 m 616 ls [.int z1, .ref xo]) (by rw [ez1]; rfl) ?_
  have hPc := hP.sub (ws' := [(xo, .inr (11, [.ref xq1, .int 0, .ref xq3, .ref xq7, .ref xq12, .int 0, .int (-1), .ref xq14, .ref xq24, .ref xq34, .ref xq36, .ref xq38, .ref xq48, .ref xq51, .ref xq53, .ref xq55, .ref xq57, .ref xq59, .int 0])), (xq14, .inr (1, [.int 0, .int 0, .int 0, .ref xq16, .ref xq17, .ref xq18, .ref xq19]))]) [0, 1] rfl
  have hDc := hD.sub (ws' := [(xo, .inr (11, [.ref xq1, .int 0, .ref xq3, .ref xq7, .ref xq12, .int 0, .int (-1), .ref xq14, .ref xq24, .ref xq34, .ref xq36, .ref xq38, .ref xq48, .ref xq51, .ref xq53, .ref xq55, .ref xq57, .ref xq59, .int 0])), (xq14, .inr (1, [.int 0, .int 0, .int 0, .ref xq16, .ref xq17, .ref xq18, .ref xq19]))]) [0, 1] (by decide) rfl
  have hKc := hK.sub (tys' := []) [] rfl
  have hFc := va_free (wc := [(xo, .inr (11, [.ref xq1, .int 0, .ref xq3, .ref xq7, .ref xq12, .int 0, .int (-1), .ref xq14, .ref xq24, .ref xq34, .ref xq36, .ref xq38, .ref xq48, .ref xq51, .ref xq53, .ref xq55, .ref xq57, .ref xq59, .int 0])), (xq14, .inr (1, [.int 0, .int 0, .int 0, .ref xq16, .ref xq17, .ref xq18, .ref xq19]))]) hD hS hA [0, 1] rfl
  refine va_calli (va_runV (As := [.int z1]) (rest := []) ⟨hx, hb, hml, hown, hq⟩ (c_SB_said l dC dI _ xo xq1 xq3 xq7 xq12 xq14 xq24 xq34 xq36 xq38 xq48 xq51 xq53 xq55 xq57 xq59 xq16 xq17 xq18 xq19 z1 ) (cwV 1 hq (gV qw_935 qw_936 qw_937 qw_119 qw_938) rfl rfl rfl (by decide +kernel) ⟨Nat.le_of_ble_eq_true rfl, Nat.le_of_ble_eq_true rfl⟩) ⟨fun a U g mk q => by obtain ⟨q0, q1, qP, qK, qD, qE⟩ := q; exact ⟨q0, q1, qP, va_K.moved (u := U) (U := U.calling g mk a) (Vm.Alike.refl U.vm) qK, qD, xE.same rfl qE⟩, va_recv hKc hPc (ci := 11) (q0 := 0) rfl rfl, fun U hU hW => ⟨rfl, by rw [hU], by rw [hU]; exact hPc, va_K.moved hW.alike hKc, hDc.weaken (fun _ _ _ _ => trivial), xE.warm hW hE⟩⟩ rfl rfl hl.1 rfl (lv_room (Nat.le_of_ble_eq_true rfl)) dL_law_616 ⟨Nat.le_of_ble_eq_true rfl, Nat.le_of_ble_eq_true rfl⟩) hS (fun q _ h => hFc q h) hFc (fun r_2 u t H1 locs ht hvm hw hB hz1 hk1 hS => ?_)
  have hP1 : va_P (dC, dI) classes [] H1 := vP_nil
  have hD1 : va_D (va_A [(xo, .inr (11, [.ref xq1, .int 0, .ref xq3, .ref xq7, .ref xq12, .int 0, .int (-1), .ref xq14, .ref xq24, .ref xq34, .ref xq36, .ref xq38, .ref xq48, .ref xq51, .ref xq53, .ref xq55, .ref xq57, .ref xq59, .int 0])), (xq14, .inr (1, [.int 0, .int 0, .int 0, .ref xq16, .ref xq17, .ref xq18, .ref xq19]))] H.size) [] := vD_nil
  obtain ⟨hP, hD⟩ := va_join (wr := [(mo, .inr (12, [.ref mq1, .int 0, .int 0, .ref mq3, .ref mq5, .ref mq7, .ref mq9, .ref mq11, .int 0, .int 0, .int 0, .int 0, .int 0, .int 0, .int 0, .ref mq13, .int 0, .ref mq15, .int 0, .ref mq17, .ref mq19, .int (-1), .int 0, .int 0, .int 0, .int 0, .int 0, .ref mq21, .int 0, .ref mq23, .ref mq25, .ref mq27, .int 0, .int 0, .int 0, .ref mq29, .ref mq31, .ref mq33, .long 0, .ref mq35, .ref mq37, .ref mq39, .ref mq41])), (mq19, .inl (mk20, 100, .inl (fun _ => 0)))]) (w1 := []) hP hD [0, 1] [2, 3] rfl rfl (by decide) (by decide) hk1 hFc hP1 hD1
  generalize H1 = H at hP hS ⊢
  have hP : va_P (dC, dI) classes [(mo, .inr (12, [.ref mq1, .int 0, .int 0, .ref mq3, .ref mq5, .ref mq7, .ref mq9, .ref mq11, .int 0, .int 0, .int 0, .int 0, .int 0, .int 0, .int 0, .ref mq13, .int 0, .ref mq15, .int 0, .ref mq17, .ref mq19, .int (-1), .int 0, .int 0, .int 0, .int 0, .int 0, .ref mq21, .int 0, .ref mq23, .ref mq25, .ref mq27, .int 0, .int 0, .int 0, .ref mq29, .ref mq31, .ref mq33, .long 0, .ref mq35, .ref mq37, .ref mq39, .ref mq41])), (mq19, .inl (mk20, 100, .inl (fun _ => 0)))] H := hP
  have hD : va_D A [(mo, .inr (12, [.ref mq1, .int 0, .int 0, .ref mq3, .ref mq5, .ref mq7, .ref mq9, .ref mq11, .int 0, .int 0, .int 0, .int 0, .int 0, .int 0, .int 0, .ref mq13, .int 0, .ref mq15, .int 0, .ref mq17, .ref mq19, .int (-1), .int 0, .int 0, .int 0, .int 0, .int 0, .ref mq21, .int 0, .ref mq23, .ref mq25, .ref mq27, .int 0, .int 0, .int 0, .ref mq29, .ref mq31, .ref mq33, .long 0, .ref mq35, .ref mq37, .ref mq39, .ref mq41])), (mq19, .inl (mk20, 100, .inl (fun _ => 0)))] := hD
  obtain rfl : r_2 = (-1) := hw
  refine lv_aload_n hx hb dL_law_619 rfl (lv_at hl 1 rfl) ?_
  refine lv_aload_n hx hb dL_law_620 rfl (lv_at hl 3 rfl) ?_
  refine lv_iload_n hx hb dL_law_621 rfl (lv_at hl 0 rfl) ?_
  refine lv_iconst (v := 1) hx hb dL_law_622 (by decide) ?_
  refine lv_iadd hx hb dL_law_623 ?_
  refine lv_topi (fun y_3 ey_3 => ?_)
  obtain rfl : y_3 = 1 := ey_3.trans (by decide)
  refine va_sld hx hb hX hbl hbA hS (inr_ok rfl) dL_law_624 ?_
  refine W.eq (g2 := F0 m 625 ls [.int z1, .ref mo, .int (-1)]) (by rw [ez1]; rfl) ?_
  have hPc := hP.sub (ws' := [(mo, .inr (12, [.ref mq1, .int 0, .int 0, .ref mq3, .ref mq5, .ref mq7, .ref mq9, .ref mq11, .int 0, .int 0, .int 0, .int 0, .int 0, .int 0, .int 0, .ref mq13, .int 0, .ref mq15, .int 0, .ref mq17, .ref mq19, .int (-1), .int 0, .int 0, .int 0, .int 0, .int 0, .ref mq21, .int 0, .ref mq23, .ref mq25, .ref mq27, .int 0, .int 0, .int 0, .ref mq29, .ref mq31, .ref mq33, .long 0, .ref mq35, .ref mq37, .ref mq39, .ref mq41])), (mq19, .inl (mk20, 100, .inl (fun _ => 0)))]) [0, 1] rfl
  have hDc := hD.sub (ws' := [(mo, .inr (12, [.ref mq1, .int 0, .int 0, .ref mq3, .ref mq5, .ref mq7, .ref mq9, .ref mq11, .int 0, .int 0, .int 0, .int 0, .int 0, .int 0, .int 0, .ref mq13, .int 0, .ref mq15, .int 0, .ref mq17, .ref mq19, .int (-1), .int 0, .int 0, .int 0, .int 0, .int 0, .ref mq21, .int 0, .ref mq23, .ref mq25, .ref mq27, .int 0, .int 0, .int 0, .ref mq29, .ref mq31, .ref mq33, .long 0, .ref mq35, .ref mq37, .ref mq39, .ref mq41])), (mq19, .inl (mk20, 100, .inl (fun _ => 0)))]) [0, 1] (by decide) rfl
  have hKc := hK.sub (tys' := [(mk20, .int)]) [0] rfl
  have hFc := va_free (wc := [(mo, .inr (12, [.ref mq1, .int 0, .int 0, .ref mq3, .ref mq5, .ref mq7, .ref mq9, .ref mq11, .int 0, .int 0, .int 0, .int 0, .int 0, .int 0, .int 0, .ref mq13, .int 0, .ref mq15, .int 0, .ref mq17, .ref mq19, .int (-1), .int 0, .int 0, .int 0, .int 0, .int 0, .ref mq21, .int 0, .ref mq23, .ref mq25, .ref mq27, .int 0, .int 0, .int 0, .ref mq29, .ref mq31, .ref mq33, .long 0, .ref mq35, .ref mq37, .ref mq39, .ref mq41])), (mq19, .inl (mk20, 100, .inl (fun _ => 0)))]) hD hS hA [0, 1] rfl
  refine va_calli (va_runV (As := [.int z1]) (rest := [.int (-1)]) ⟨hx, hb, hml, hown, hq⟩ (c_M_said l dC dI _ mo mq1 mq3 mq5 mq7 mq9 mq11 mq13 mq15 mq17 mq19 mq21 mq23 mq25 mq27 mq29 mq31 mq33 mq35 mq37 mq39 mq41 mk20 z1 ) (cwV 1 hq (gV qw_1632 qw_1633 qw_1634 qw_131 qw_1635) rfl rfl rfl (by decide +kernel) ⟨Nat.le_of_ble_eq_true rfl, Nat.le_of_ble_eq_true rfl⟩) ⟨fun a U g mk q => by obtain ⟨q0, q1, qP, qK, qD, qE⟩ := q; exact ⟨q0, q1, qP, va_K.moved (u := U) (U := U.calling g mk a) (Vm.Alike.refl U.vm) qK, qD, xE.same rfl qE⟩, va_recv hKc hPc (ci := 12) (q0 := 0) rfl rfl, fun U hU hW => ⟨rfl, by rw [hU], by rw [hU]; exact hPc, va_K.moved hW.alike hKc, hDc.weaken (fun _ _ _ _ => trivial), xE.warm hW hE⟩⟩ rfl rfl hl.1 rfl (lv_room (Nat.le_of_ble_eq_true rfl)) dL_law_625 ⟨Nat.le_of_ble_eq_true rfl, Nat.le_of_ble_eq_true rfl⟩) hS (fun q _ h => hFc q h) hFc (fun r_4 u t H1 locs ht hvm hw hB hz1 hk1 hS => ?_)
  have hP1 : va_P (dC, dI) classes [] H1 := vP_nil
  have hD1 : va_D (va_A [(mo, .inr (12, [.ref mq1, .int 0, .int 0, .ref mq3, .ref mq5, .ref mq7, .ref mq9, .ref mq11, .int 0, .int 0, .int 0, .int 0, .int 0, .int 0, .int 0, .ref mq13, .int 0, .ref mq15, .int 0, .ref mq17, .ref mq19, .int (-1), .int 0, .int 0, .int 0, .int 0, .int 0, .ref mq21, .int 0, .ref mq23, .ref mq25, .ref mq27, .int 0, .int 0, .int 0, .ref mq29, .ref mq31, .ref mq33, .long 0, .ref mq35, .ref mq37, .ref mq39, .ref mq41])), (mq19, .inl (mk20, 100, .inl (fun _ => 0)))] H.size) [] := vD_nil
  obtain ⟨hP, hD⟩ := va_join (wr := []) (w1 := []) hP hD [0, 1] [] rfl rfl (by decide) (by decide) hk1 hFc hP1 hD1
  generalize H1 = H at hP hS ⊢
  have hP : va_P (dC, dI) classes [] H := hP
  have hD : va_D A [] := hD
  obtain rfl : r_4 = (-1) := hw
  refine lv_icmp_eq (tgt := 1210) hx hb dL_law_628 (by decide) (fun _ => ?_) (fun c9 => absurd c9 (by decide))
  exact law_end C0 hAq hS (lv_sub hl [0, 1, 2, 3] rfl)
set_option maxHeartbeats 4000000 in
set_option maxRecDepth 100000 in
/-- quiet, the first call -/
theorem law_17 {p : Program} {l : Launch} {e : Env} {s : State} {m : MethodId} {below : List Frame} {meth : Method} {c : Code} {A : Nat → Prop} {kA vA : Nat → Nat} {dC : Nat → ClassId} {dI : Nat → Nat → Nat} {b : Nat} {xs : Nat → Int32} {xo : Nat} {mo : Nat} {xq1 : Nat} {xq3 : Nat} {xq7 : Nat} {xq12 : Nat} {xq14 : Nat} {xq24 : Nat} {xq34 : Nat} {xq36 : Nat} {xq38 : Nat} {xq48 : Nat} {xq51 : Nat} {xq53 : Nat} {xq55 : Nat} {xq57 : Nat} {xq59 : Nat} {xq16 : Nat} {xq17 : Nat} {xq18 : Nat} {xq19 : Nat} {mq1 : Nat} {mq3 : Nat} {mq5 : Nat} {mq7 : Nat} {mq9 : Nat} {mq11 : Nat} {mq13 : Nat} {mq15 : Nat} {mq17 : Nat} {mq19 : Nat} {mq21 : Nat} {mq23 : Nat} {mq25 : Nat} {mq27 : Nat} {mq29 : Nat} {mq31 : Nat} {mq33 : Nat} {mq35 : Nat} {mq37 : Nat} {mq39 : Nat} {mq41 : Nat} {mk20 : ClassId} (C0 : lw_At p s m meth c b 6 xs) (hA : ∀ q : Nat, s.heap.size ≤ q → A q) (hAq : ∀ q : Nat, A q → s.heap.size ≤ q) (hE : xE s) (hT : xT kA vA A s s.heap) (hK : va_K (dC, dI) classes [(mk20, .int)] s) {H : Heap} {locs : List Loc} (hP : va_P (dC, dI) classes [(xo, .inr (11, [.ref xq1, .int 0, .ref xq3, .ref xq7, .ref xq12, .int 0, .int (-1), .ref xq14, .ref xq24, .ref xq34, .ref xq36, .ref xq38, .ref xq48, .ref xq51, .ref xq53, .ref xq55, .ref xq57, .ref xq59, .int 0])), (xq14, .inr (1, [.int 0, .int 0, .int 0, .ref xq16, .ref xq17, .ref xq18, .ref xq19])), (mo, .inr (12, [.ref mq1, .int 0, .int 0, .ref mq3, .ref mq5, .ref mq7, .ref mq9, .ref mq11, .int 0, .int 0, .int 0, .int 0, .int 0, .int 0, .int 0, .ref mq13, .int 0, .ref mq15, .int 0, .ref mq17, .ref mq19, .int (-1), .int 0, .int 0, .int 0, .int 0, .int 0, .ref mq21, .int 0, .ref mq23, .ref mq25, .ref mq27, .int 0, .int 0, .int 0, .ref mq29, .ref mq31, .ref mq33, .long 0, .ref mq35, .ref mq37, .ref mq39, .ref mq41])), (mq19, .inl (mk20, 100, .inl (fun _ => 0)))] H) (hD : va_D A [(xo, .inr (11, [.ref xq1, .int 0, .ref xq3, .ref xq7, .ref xq12, .int 0, .int (-1), .ref xq14, .ref xq24, .ref xq34, .ref xq36, .ref xq38, .ref xq48, .ref xq51, .ref xq53, .ref xq55, .ref xq57, .ref xq59, .int 0])), (xq14, .inr (1, [.int 0, .int 0, .int 0, .ref xq16, .ref xq17, .ref xq18, .ref xq19])), (mo, .inr (12, [.ref mq1, .int 0, .int 0, .ref mq3, .ref mq5, .ref mq7, .ref mq9, .ref mq11, .int 0, .int 0, .int 0, .int 0, .int 0, .int 0, .int 0, .ref mq13, .int 0, .ref mq15, .int 0, .ref mq17, .ref mq19, .int (-1), .int 0, .int 0, .int 0, .int 0, .int 0, .ref mq21, .int 0, .ref mq23, .ref mq25, .ref mq27, .int 0, .int 0, .int 0, .ref mq29, .ref mq31, .ref mq33, .long 0, .ref mq35, .ref mq37, .ref mq39, .ref mq41])), (mq19, .inl (mk20, 100, .inl (fun _ => 0)))]) (hS : va_S A s.heap H locs) {ls : Array Slot} (hl : lv_has ls 4 [(3, .int 0), (2, .ref mo), (1, .ref xo), (0, .ref b)]) : W p l e room_1 s m #[Value.ref b] below meth c H locs 152 8829 (lw_Z below #[Value.ref b] s) (F0 m 633 ls []) := by
  obtain ⟨hx, hb, hr, hml, hown, hts, hX, hbl, hlocks, hgv⟩ := id C0
  have hown : s.vm.findClass RL = some m.cls := hown
  have hq : ∀ w ∈ wsA, w.before _ s = true := fun w h => hts w (List.mem_filter.mp h).1
  have hbA : ¬ A b := fun h => Nat.not_le.mpr hbl (hAq b h)
  refine lv_aload_n hx hb dL_law_633 rfl (lv_at hl 2 rfl) ?_
  have hPc := hP.sub (ws' := [(xo, .inr (11, [.ref xq1, .int 0, .ref xq3, .ref xq7, .ref xq12, .int 0, .int (-1), .ref xq14, .ref xq24, .ref xq34, .ref xq36, .ref xq38, .ref xq48, .ref xq51, .ref xq53, .ref xq55, .ref xq57, .ref xq59, .int 0])), (xq14, .inr (1, [.int 0, .int 0, .int 0, .ref xq16, .ref xq17, .ref xq18, .ref xq19]))]) [0, 1] rfl
  have hDc := hD.sub (ws' := [(xo, .inr (11, [.ref xq1, .int 0, .ref xq3, .ref xq7, .ref xq12, .int 0, .int (-1), .ref xq14, .ref xq24, .ref xq34, .ref xq36, .ref xq38, .ref xq48, .ref xq51, .ref xq53, .ref xq55, .ref xq57, .ref xq59, .int 0])), (xq14, .inr (1, [.int 0, .int 0, .int 0, .ref xq16, .ref xq17, .ref xq18, .ref xq19]))]) [0, 1] (by decide) rfl
  have hKc := hK.sub (tys' := []) [] rfl
  have hFc := va_free (wc := [(xo, .inr (11, [.ref xq1, .int 0, .ref xq3, .ref xq7, .ref xq12, .int 0, .int (-1), .ref xq14, .ref xq24, .ref xq34, .ref xq36, .ref xq38, .ref xq48, .ref xq51, .ref xq53, .ref xq55, .ref xq57, .ref xq59, .int 0])), (xq14, .inr (1, [.int 0, .int 0, .int 0, .ref xq16, .ref xq17, .ref xq18, .ref xq19]))]) hD hS hA [0, 1] rfl
  refine va_calli (va_runV (As := []) (rest := []) ⟨hx, hb, hml, hown, hq⟩ (c_SB_quiet l dC dI _ xo xq1 xq3 xq7 xq12 xq14 xq24 xq34 xq36 xq38 xq48 xq51 xq53 xq55 xq57 xq59 xq16 xq17 xq18 xq19 ) (cwV 0 hq (gV qw_939 qw_940 qw_941 qw_119 qw_942) rfl rfl rfl (by decide +kernel) ⟨Nat.le_of_ble_eq_true rfl, Nat.le_of_ble_eq_true rfl⟩) ⟨fun a U g mk q => by obtain ⟨q0, q1, qP, qK, qD, qE⟩ := q; exact ⟨q0, q1, qP, va_K.moved (u := U) (U := U.calling g mk a) (Vm.Alike.refl U.vm) qK, qD, xE.same rfl qE⟩, va_recv hKc hPc (ci := 11) (q0 := 0) rfl rfl, fun U hU hW => ⟨rfl, by rw [hU], by rw [hU]; exact hPc, va_K.moved hW.alike hKc, hDc.weaken (fun _ _ _ _ => trivial), xE.warm hW hE⟩⟩ rfl rfl hl.1 rfl (lv_room (Nat.le_of_ble_eq_true rfl)) dL_law_634 ⟨Nat.le_of_ble_eq_true rfl, Nat.le_of_ble_eq_true rfl⟩) hS (fun q _ h => hFc q h) hFc (fun r_1 u t H1 locs ht hvm hw hB hz1 hk1 hS => ?_)
  have hP1 : va_P (dC, dI) classes [] H1 := vP_nil
  have hD1 : va_D (va_A [(xo, .inr (11, [.ref xq1, .int 0, .ref xq3, .ref xq7, .ref xq12, .int 0, .int (-1), .ref xq14, .ref xq24, .ref xq34, .ref xq36, .ref xq38, .ref xq48, .ref xq51, .ref xq53, .ref xq55, .ref xq57, .ref xq59, .int 0])), (xq14, .inr (1, [.int 0, .int 0, .int 0, .ref xq16, .ref xq17, .ref xq18, .ref xq19]))] H.size) [] := vD_nil
  obtain ⟨hP, hD⟩ := va_join (wr := [(mo, .inr (12, [.ref mq1, .int 0, .int 0, .ref mq3, .ref mq5, .ref mq7, .ref mq9, .ref mq11, .int 0, .int 0, .int 0, .int 0, .int 0, .int 0, .int 0, .ref mq13, .int 0, .ref mq15, .int 0, .ref mq17, .ref mq19, .int (-1), .int 0, .int 0, .int 0, .int 0, .int 0, .ref mq21, .int 0, .ref mq23, .ref mq25, .ref mq27, .int 0, .int 0, .int 0, .ref mq29, .ref mq31, .ref mq33, .long 0, .ref mq35, .ref mq37, .ref mq39, .ref mq41])), (mq19, .inl (mk20, 100, .inl (fun _ => 0)))]) (w1 := []) hP hD [0, 1] [2, 3] rfl rfl (by decide) (by decide) hk1 hFc hP1 hD1
  generalize H1 = H at hP hS ⊢
  have hP : va_P (dC, dI) classes [(mo, .inr (12, [.ref mq1, .int 0, .int 0, .ref mq3, .ref mq5, .ref mq7, .ref mq9, .ref mq11, .int 0, .int 0, .int 0, .int 0, .int 0, .int 0, .int 0, .ref mq13, .int 0, .ref mq15, .int 0, .ref mq17, .ref mq19, .int (-1), .int 0, .int 0, .int 0, .int 0, .int 0, .ref mq21, .int 0, .ref mq23, .ref mq25, .ref mq27, .int 0, .int 0, .int 0, .ref mq29, .ref mq31, .ref mq33, .long 0, .ref mq35, .ref mq37, .ref mq39, .ref mq41])), (mq19, .inl (mk20, 100, .inl (fun _ => 0)))] H := hP
  have hD : va_D A [(mo, .inr (12, [.ref mq1, .int 0, .int 0, .ref mq3, .ref mq5, .ref mq7, .ref mq9, .ref mq11, .int 0, .int 0, .int 0, .int 0, .int 0, .int 0, .int 0, .ref mq13, .int 0, .ref mq15, .int 0, .ref mq17, .ref mq19, .int (-1), .int 0, .int 0, .int 0, .int 0, .int 0, .ref mq21, .int 0, .ref mq23, .ref mq25, .ref mq27, .int 0, .int 0, .int 0, .ref mq29, .ref mq31, .ref mq33, .long 0, .ref mq35, .ref mq37, .ref mq39, .ref mq41])), (mq19, .inl (mk20, 100, .inl (fun _ => 0)))] := hD
  obtain rfl : r_1 = (-1) := hw
  refine lv_aload_n hx hb dL_law_637 rfl (lv_at hl 1 rfl) ?_
  have hPc := hP.sub (ws' := [(mo, .inr (12, [.ref mq1, .int 0, .int 0, .ref mq3, .ref mq5, .ref mq7, .ref mq9, .ref mq11, .int 0, .int 0, .int 0, .int 0, .int 0, .int 0, .int 0, .ref mq13, .int 0, .ref mq15, .int 0, .ref mq17, .ref mq19, .int (-1), .int 0, .int 0, .int 0, .int 0, .int 0, .ref mq21, .int 0, .ref mq23, .ref mq25, .ref mq27, .int 0, .int 0, .int 0, .ref mq29, .ref mq31, .ref mq33, .long 0, .ref mq35, .ref mq37, .ref mq39, .ref mq41])), (mq19, .inl (mk20, 100, .inl (fun _ => 0)))]) [0, 1] rfl
  have hDc := hD.sub (ws' := [(mo, .inr (12, [.ref mq1, .int 0, .int 0, .ref mq3, .ref mq5, .ref mq7, .ref mq9, .ref mq11, .int 0, .int 0, .int 0, .int 0, .int 0, .int 0, .int 0, .ref mq13, .int 0, .ref mq15, .int 0, .ref mq17, .ref mq19, .int (-1), .int 0, .int 0, .int 0, .int 0, .int 0, .ref mq21, .int 0, .ref mq23, .ref mq25, .ref mq27, .int 0, .int 0, .int 0, .ref mq29, .ref mq31, .ref mq33, .long 0, .ref mq35, .ref mq37, .ref mq39, .ref mq41])), (mq19, .inl (mk20, 100, .inl (fun _ => 0)))]) [0, 1] (by decide) rfl
  have hKc := hK.sub (tys' := [(mk20, .int)]) [0] rfl
  have hFc := va_free (wc := [(mo, .inr (12, [.ref mq1, .int 0, .int 0, .ref mq3, .ref mq5, .ref mq7, .ref mq9, .ref mq11, .int 0, .int 0, .int 0, .int 0, .int 0, .int 0, .int 0, .ref mq13, .int 0, .ref mq15, .int 0, .ref mq17, .ref mq19, .int (-1), .int 0, .int 0, .int 0, .int 0, .int 0, .ref mq21, .int 0, .ref mq23, .ref mq25, .ref mq27, .int 0, .int 0, .int 0, .ref mq29, .ref mq31, .ref mq33, .long 0, .ref mq35, .ref mq37, .ref mq39, .ref mq41])), (mq19, .inl (mk20, 100, .inl (fun _ => 0)))]) hD hS hA [0, 1] rfl
  refine va_calli (va_runV (As := []) (rest := [.int (-1)]) ⟨hx, hb, hml, hown, hq⟩ (c_M_quiet l dC dI _ mo mq1 mq3 mq5 mq7 mq9 mq11 mq13 mq15 mq17 mq19 mq21 mq23 mq25 mq27 mq29 mq31 mq33 mq35 mq37 mq39 mq41 mk20 ) (cwV 0 hq (gV qw_1640 qw_1641 qw_1642 qw_131 qw_1643) rfl rfl rfl (by decide +kernel) ⟨Nat.le_of_ble_eq_true rfl, Nat.le_of_ble_eq_true rfl⟩) ⟨fun a U g mk q => by obtain ⟨q0, q1, qP, qK, qD, qE⟩ := q; exact ⟨q0, q1, qP, va_K.moved (u := U) (U := U.calling g mk a) (Vm.Alike.refl U.vm) qK, qD, xE.same rfl qE⟩, va_recv hKc hPc (ci := 12) (q0 := 0) rfl rfl, fun U hU hW => ⟨rfl, by rw [hU], by rw [hU]; exact hPc, va_K.moved hW.alike hKc, hDc.weaken (fun _ _ _ _ => trivial), xE.warm hW hE⟩⟩ rfl rfl hl.1 rfl (lv_room (Nat.le_of_ble_eq_true rfl)) dL_law_638 ⟨Nat.le_of_ble_eq_true rfl, Nat.le_of_ble_eq_true rfl⟩) hS (fun q _ h => hFc q h) hFc (fun r_2 u t H1 locs ht hvm hw hB hz1 hk1 hS => ?_)
  have hP1 : va_P (dC, dI) classes [] H1 := vP_nil
  have hD1 : va_D (va_A [(mo, .inr (12, [.ref mq1, .int 0, .int 0, .ref mq3, .ref mq5, .ref mq7, .ref mq9, .ref mq11, .int 0, .int 0, .int 0, .int 0, .int 0, .int 0, .int 0, .ref mq13, .int 0, .ref mq15, .int 0, .ref mq17, .ref mq19, .int (-1), .int 0, .int 0, .int 0, .int 0, .int 0, .ref mq21, .int 0, .ref mq23, .ref mq25, .ref mq27, .int 0, .int 0, .int 0, .ref mq29, .ref mq31, .ref mq33, .long 0, .ref mq35, .ref mq37, .ref mq39, .ref mq41])), (mq19, .inl (mk20, 100, .inl (fun _ => 0)))] H.size) [] := vD_nil
  obtain ⟨hP, hD⟩ := va_join (wr := []) (w1 := []) hP hD [0, 1] [] rfl rfl (by decide) (by decide) hk1 hFc hP1 hD1
  generalize H1 = H at hP hS ⊢
  have hP : va_P (dC, dI) classes [] H := hP
  have hD : va_D A [] := hD
  obtain rfl : r_2 = (-1) := hw
  refine lv_icmp_eq (tgt := 1210) hx hb dL_law_641 (by decide) (fun _ => ?_) (fun c9 => absurd c9 (by decide))
  exact law_end C0 hAq hS (lv_sub hl [0, 1, 2, 3] rfl)
