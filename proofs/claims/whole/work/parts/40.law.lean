/-! the law: its words, its rows -/
/-! THE CLAIM OUT OF ONE WALK OF THE LAW'S BODY. Your part is whole_start (and what it stands on); all else here is the same for every law, but numbers. -/
def R_law : String := "AgesFerryLaw"
def lw_P (b : Addr) (xs : List Int32) (args : Array Value) (s : State) : Prop := args = #[.ref b] ∧ s.IntsAt b xs ∧ xs.length ≤ 2048 ∧ (Jvm.Cond.and given_1 narrow_1).before args s = true
def lw_Q (_ : Array Value) (s : State) (o : Outcome) (t : State) : Prop := o = .returned (some (.int 1)) ∧ Framed s o t [] 600000 7302249
def lw_Z (below : List Frame) (a : Array Value) (s : State) : State → Prop := fun t => ∃ o, t.status = .running ∧ Ended t below o ∧ lw_Q a s o t
/-- the law's own end, with 1 on the stack, nothing written that was there before, its room as the claim has it -/
theorem lw_ret {p : Program} {l : Launch} {e : Env} {s : State} {m : MethodId} {below : List Frame} {meth : Method} {c : Code} {b : Nat} (hx : p.tables.exec = Jvm.exec) (hb : c.code = code) (hr : meth.sig.returnType = ret) (hlocks : meth.locks = false) {pc : Nat} {H : Heap} {ls : Array Slot} (hdg : decode code pc = .ok (.ireturn, 1)) : W p l e room_1 s m #[Value.ref b] below meth c H [] 600000 7302249 (lw_Z below #[Value.ref b] s) (F0 m pc ls [.int 1]) := by
  intro T hT X
  obtain ⟨fs, hret, hrun, hended, hW, hframe⟩ := X.leave (v := some (.int 1)) (hlocks := hlocks) (fun h => by rw [hr] at h; cases h)
  have hmeth' : T.vm.method? m = some meth := X.method'
  refine ⟨T.setFrames fs, ?_, .returned (some (.int 1)), hrun, hended, rfl, ⟨_, rfl⟩, hW, hframe⟩
  jvm_step X.here [X.here.top, hx, hb, hdg, hmeth', hr, ret, narrow_b1]
  (try refine ⟨rfl, ?_⟩); (try refine ⟨rfl, ?_⟩)
  first | (intro acts; rw [hret _ acts rfl rfl rfl]) | rw [hret _ _ rfl rfl rfl]
  exact Steps.refl _
/-- what holds at the law's entry: the machine, the code, the tables' words (any of lw_tbl by 'hts w (by decide +kernel)'), the script of L ints xs at the cell b, what the Statement gives of the start (any of its parts by flat_of_before) -/
def lw_At (p : Program) (s : State) (m : MethodId) (meth : Method) (c : Code) (b L : Nat) (xs : Nat → Int32) : Prop :=
  p.tables.exec = Jvm.exec ∧ c.code = code ∧ meth.sig.returnType = ret ∧ c.maxLocals = 4 ∧ s.vm.findClass R_law = some m.cls ∧ (∀ w ∈ lw_tbl, w.before #[Value.ref b] s = true) ∧ va_X b L xs s s.heap ∧ b < s.heap.size ∧ meth.locks = false ∧ (Jvm.Cond.and given_1 narrow_1).before #[Value.ref b] s = true
theorem kL_9 : gCI RL 9 mX9_init 0 := ⟨aX9_init, gT_in 60 (by decide +kernel) (by decide +kernel), gT_in 61 (by decide +kernel) (by decide +kernel), rfl, rfl⟩
theorem kL_12 : gCI RL 12 mX10_init 0 := ⟨aX10_init, gT_in 805 (by decide +kernel) (by decide +kernel), gT_in 806 (by decide +kernel) (by decide +kernel), rfl, rfl⟩
theorem kL_13 : gCV RL 13 mX9_write 1 := ⟨aX9_write, gT_in 452 (by decide +kernel) (by decide +kernel), gT_in 453 (by decide +kernel) (by decide +kernel), gT_in 454 (by decide +kernel) (by decide +kernel)⟩
theorem kL_17 : gCV RL 17 mX10_write 1 := ⟨aX10_write, gT_in 867 (by decide +kernel) (by decide +kernel), gT_in 868 (by decide +kernel) (by decide +kernel), gT_in 869 (by decide +kernel) (by decide +kernel)⟩
theorem kL_18 : gCV RL 18 mX9_wipe 0 := ⟨aX9_wipe, gT_in 457 (by decide +kernel) (by decide +kernel), gT_in 458 (by decide +kernel) (by decide +kernel), gT_in 459 (by decide +kernel) (by decide +kernel)⟩
theorem kL_22 : gCV RL 22 mX10_wipe 0 := ⟨aX10_wipe, gT_in 874 (by decide +kernel) (by decide +kernel), gT_in 875 (by decide +kernel) (by decide +kernel), gT_in 876 (by decide +kernel) (by decide +kernel)⟩
theorem kL_23 : gCV RL 23 mX9_fault 0 := ⟨aX9_fault, gT_in 461 (by decide +kernel) (by decide +kernel), gT_in 462 (by decide +kernel) (by decide +kernel), gT_in 463 (by decide +kernel) (by decide +kernel)⟩
theorem kL_26 : gCV RL 26 mX10_fault 0 := ⟨aX10_fault, gT_in 878 (by decide +kernel) (by decide +kernel), gT_in 879 (by decide +kernel) (by decide +kernel), gT_in 880 (by decide +kernel) (by decide +kernel)⟩
theorem kL_27 : gCV RL 27 mX9_lay 0 := ⟨aX9_lay, gT_in 465 (by decide +kernel) (by decide +kernel), gT_in 466 (by decide +kernel) (by decide +kernel), gT_in 467 (by decide +kernel) (by decide +kernel)⟩
theorem kL_30 : gCV RL 30 mX10_lay 0 := ⟨aX10_lay, gT_in 901 (by decide +kernel) (by decide +kernel), gT_in 902 (by decide +kernel) (by decide +kernel), gT_in 903 (by decide +kernel) (by decide +kernel)⟩
theorem kL_31 : gCV RL 31 mX9_person 2 := ⟨aX9_person, gT_in 482 (by decide +kernel) (by decide +kernel), gT_in 483 (by decide +kernel) (by decide +kernel), gT_in 484 (by decide +kernel) (by decide +kernel)⟩
theorem kL_35 : gCV RL 35 mX10_person 2 := ⟨aX10_person, gT_in 905 (by decide +kernel) (by decide +kernel), gT_in 906 (by decide +kernel) (by decide +kernel), gT_in 907 (by decide +kernel) (by decide +kernel)⟩
theorem kL_36 : gCV RL 36 mX9_sum 1 := ⟨aX9_sum, gT_in 499 (by decide +kernel) (by decide +kernel), gT_in 500 (by decide +kernel) (by decide +kernel), gT_in 501 (by decide +kernel) (by decide +kernel)⟩
theorem kL_39 : gCV RL 39 mX10_sum 1 := ⟨aX10_sum, gT_in 917 (by decide +kernel) (by decide +kernel), gT_in 918 (by decide +kernel) (by decide +kernel), gT_in 919 (by decide +kernel) (by decide +kernel)⟩
theorem kL_40 : gCV RL 40 mX9_pass 1 := ⟨aX9_pass, gT_in 538 (by decide +kernel) (by decide +kernel), gT_in 539 (by decide +kernel) (by decide +kernel), gT_in 540 (by decide +kernel) (by decide +kernel)⟩
theorem kL_43 : gCV RL 43 mX10_pass 1 := ⟨aX10_pass, gT_in 941 (by decide +kernel) (by decide +kernel), gT_in 942 (by decide +kernel) (by decide +kernel), gT_in 943 (by decide +kernel) (by decide +kernel)⟩
theorem kL_44 : gCV RL 44 mX9_board 1 := ⟨aX9_board, gT_in 559 (by decide +kernel) (by decide +kernel), gT_in 560 (by decide +kernel) (by decide +kernel), gT_in 561 (by decide +kernel) (by decide +kernel)⟩
theorem kL_47 : gCV RL 47 mX10_board 1 := ⟨aX10_board, gT_in 949 (by decide +kernel) (by decide +kernel), gT_in 950 (by decide +kernel) (by decide +kernel), gT_in 951 (by decide +kernel) (by decide +kernel)⟩
theorem kL_48 : gCV RL 48 mX9_stepOff 1 := ⟨aX9_stepOff, gT_in 567 (by decide +kernel) (by decide +kernel), gT_in 568 (by decide +kernel) (by decide +kernel), gT_in 569 (by decide +kernel) (by decide +kernel)⟩
theorem kL_51 : gCV RL 51 mX10_stepOff 1 := ⟨aX10_stepOff, gT_in 953 (by decide +kernel) (by decide +kernel), gT_in 954 (by decide +kernel) (by decide +kernel), gT_in 955 (by decide +kernel) (by decide +kernel)⟩
theorem kL_52 : gCV RL 52 mX9_die 1 := ⟨aX9_die, gT_in 575 (by decide +kernel) (by decide +kernel), gT_in 576 (by decide +kernel) (by decide +kernel), gT_in 577 (by decide +kernel) (by decide +kernel)⟩
theorem kL_55 : gCV RL 55 mX10_die 1 := ⟨aX10_die, gT_in 957 (by decide +kernel) (by decide +kernel), gT_in 958 (by decide +kernel) (by decide +kernel), gT_in 959 (by decide +kernel) (by decide +kernel)⟩
theorem kL_56 : gCV RL 56 mX9_sail 0 := ⟨aX9_sail, gT_in 584 (by decide +kernel) (by decide +kernel), gT_in 585 (by decide +kernel) (by decide +kernel), gT_in 586 (by decide +kernel) (by decide +kernel)⟩
theorem kL_59 : gCV RL 59 mX10_sail 0 := ⟨aX10_sail, gT_in 961 (by decide +kernel) (by decide +kernel), gT_in 962 (by decide +kernel) (by decide +kernel), gT_in 963 (by decide +kernel) (by decide +kernel)⟩
theorem kL_60 : gCV RL 60 mX9_undo 0 := ⟨aX9_undo, gT_in 592 (by decide +kernel) (by decide +kernel), gT_in 593 (by decide +kernel) (by decide +kernel), gT_in 594 (by decide +kernel) (by decide +kernel)⟩
theorem kL_63 : gCV RL 63 mX10_undo 0 := ⟨aX10_undo, gT_in 969 (by decide +kernel) (by decide +kernel), gT_in 970 (by decide +kernel) (by decide +kernel), gT_in 971 (by decide +kernel) (by decide +kernel)⟩
theorem kL_64 : gCV RL 64 mX9_best 1 := ⟨aX9_best, gT_in 600 (by decide +kernel) (by decide +kernel), gT_in 601 (by decide +kernel) (by decide +kernel), gT_in 602 (by decide +kernel) (by decide +kernel)⟩
theorem kL_67 : gCV RL 67 mX10_best 1 := ⟨aX10_best, gT_in 973 (by decide +kernel) (by decide +kernel), gT_in 974 (by decide +kernel) (by decide +kernel), gT_in 975 (by decide +kernel) (by decide +kernel)⟩
theorem kL_68 : gCV RL 68 mX9_waits 0 := ⟨aX9_waits, gT_in 627 (by decide +kernel) (by decide +kernel), gT_in 628 (by decide +kernel) (by decide +kernel), gT_in 629 (by decide +kernel) (by decide +kernel)⟩
theorem kL_71 : gCV RL 71 mX10_waits 0 := ⟨aX10_waits, gT_in 984 (by decide +kernel) (by decide +kernel), gT_in 985 (by decide +kernel) (by decide +kernel), gT_in 986 (by decide +kernel) (by decide +kernel)⟩
theorem kL_72 : gCV RL 72 mX9_sailings 1 := ⟨aX9_sailings, gT_in 645 (by decide +kernel) (by decide +kernel), gT_in 646 (by decide +kernel) (by decide +kernel), gT_in 647 (by decide +kernel) (by decide +kernel)⟩
theorem kL_75 : gCV RL 75 mX10_sailings 1 := ⟨aX10_sailings, gT_in 992 (by decide +kernel) (by decide +kernel), gT_in 993 (by decide +kernel) (by decide +kernel), gT_in 994 (by decide +kernel) (by decide +kernel)⟩
theorem kL_76 : gCV RL 76 mX9_setsFor 1 := ⟨aX9_setsFor, gT_in 661 (by decide +kernel) (by decide +kernel), gT_in 662 (by decide +kernel) (by decide +kernel), gT_in 663 (by decide +kernel) (by decide +kernel)⟩
theorem kL_79 : gCV RL 79 mX10_setsFor 1 := ⟨aX10_setsFor, gT_in 1002 (by decide +kernel) (by decide +kernel), gT_in 1003 (by decide +kernel) (by decide +kernel), gT_in 1004 (by decide +kernel) (by decide +kernel)⟩
theorem kL_80 : gCV RL 80 mX9_oddOnes 0 := ⟨aX9_oddOnes, gT_in 671 (by decide +kernel) (by decide +kernel), gT_in 672 (by decide +kernel) (by decide +kernel), gT_in 673 (by decide +kernel) (by decide +kernel)⟩
theorem kL_83 : gCV RL 83 mX10_oddOnes 0 := ⟨aX10_oddOnes, gT_in 1010 (by decide +kernel) (by decide +kernel), gT_in 1011 (by decide +kernel) (by decide +kernel), gT_in 1012 (by decide +kernel) (by decide +kernel)⟩
theorem kL_84 : gCV RL 84 mX9_tell 2 := ⟨aX9_tell, gT_in 679 (by decide +kernel) (by decide +kernel), gT_in 680 (by decide +kernel) (by decide +kernel), gT_in 681 (by decide +kernel) (by decide +kernel)⟩
theorem kL_87 : gCV RL 87 mX10_tell 2 := ⟨aX10_tell, gT_in 1014 (by decide +kernel) (by decide +kernel), gT_in 1015 (by decide +kernel) (by decide +kernel), gT_in 1016 (by decide +kernel) (by decide +kernel)⟩
theorem kL_88 : gCV RL 88 mX9_forget 0 := ⟨aX9_forget, gT_in 695 (by decide +kernel) (by decide +kernel), gT_in 696 (by decide +kernel) (by decide +kernel), gT_in 697 (by decide +kernel) (by decide +kernel)⟩
theorem kL_91 : gCV RL 91 mX10_forget 0 := ⟨aX10_forget, gT_in 1018 (by decide +kernel) (by decide +kernel), gT_in 1019 (by decide +kernel) (by decide +kernel), gT_in 1020 (by decide +kernel) (by decide +kernel)⟩
theorem kL_92 : gCV RL 92 mX9_liar 0 := ⟨aX9_liar, gT_in 699 (by decide +kernel) (by decide +kernel), gT_in 700 (by decide +kernel) (by decide +kernel), gT_in 701 (by decide +kernel) (by decide +kernel)⟩
theorem kL_95 : gCV RL 95 mX10_liar 0 := ⟨aX10_liar, gT_in 1022 (by decide +kernel) (by decide +kernel), gT_in 1023 (by decide +kernel) (by decide +kernel), gT_in 1024 (by decide +kernel) (by decide +kernel)⟩
theorem kL_96 : gCV RL 96 mX9_age 2 := ⟨aX9_age, gT_in 713 (by decide +kernel) (by decide +kernel), gT_in 714 (by decide +kernel) (by decide +kernel), gT_in 715 (by decide +kernel) (by decide +kernel)⟩
theorem kL_99 : gCV RL 99 mX10_age 2 := ⟨aX10_age, gT_in 1030 (by decide +kernel) (by decide +kernel), gT_in 1031 (by decide +kernel) (by decide +kernel), gT_in 1032 (by decide +kernel) (by decide +kernel)⟩
theorem kL_100 : gCV RL 100 mX9_sums 1 := ⟨aX9_sums, gT_in 717 (by decide +kernel) (by decide +kernel), gT_in 718 (by decide +kernel) (by decide +kernel), gT_in 719 (by decide +kernel) (by decide +kernel)⟩
theorem kL_103 : gCV RL 103 mX10_sums 1 := ⟨aX10_sums, gT_in 1034 (by decide +kernel) (by decide +kernel), gT_in 1035 (by decide +kernel) (by decide +kernel), gT_in 1036 (by decide +kernel) (by decide +kernel)⟩
theorem kL_104 : gCV RL 104 mX9_stays 2 := ⟨aX9_stays, gT_in 738 (by decide +kernel) (by decide +kernel), gT_in 739 (by decide +kernel) (by decide +kernel), gT_in 740 (by decide +kernel) (by decide +kernel)⟩
theorem kL_107 : gCV RL 107 mX10_stays 2 := ⟨aX10_stays, gT_in 1038 (by decide +kernel) (by decide +kernel), gT_in 1039 (by decide +kernel) (by decide +kernel), gT_in 1040 (by decide +kernel) (by decide +kernel)⟩
theorem kL_108 : gCV RL 108 mX9_day 3 := ⟨aX9_day, gT_in 767 (by decide +kernel) (by decide +kernel), gT_in 768 (by decide +kernel) (by decide +kernel), gT_in 769 (by decide +kernel) (by decide +kernel)⟩
theorem kL_112 : gCV RL 112 mX10_day 3 := ⟨aX10_day, gT_in 1042 (by decide +kernel) (by decide +kernel), gT_in 1043 (by decide +kernel) (by decide +kernel), gT_in 1044 (by decide +kernel) (by decide +kernel)⟩
theorem kL_113 : gCV RL 113 mX9_keep 0 := ⟨aX9_keep, gT_in 790 (by decide +kernel) (by decide +kernel), gT_in 791 (by decide +kernel) (by decide +kernel), gT_in 792 (by decide +kernel) (by decide +kernel)⟩
theorem kL_116 : gCV RL 116 mX10_keep 0 := ⟨aX10_keep, gT_in 1053 (by decide +kernel) (by decide +kernel), gT_in 1054 (by decide +kernel) (by decide +kernel), gT_in 1055 (by decide +kernel) (by decide +kernel)⟩
theorem kL_117 : gCV RL 117 mX9_back 0 := ⟨aX9_back, gT_in 794 (by decide +kernel) (by decide +kernel), gT_in 795 (by decide +kernel) (by decide +kernel), gT_in 796 (by decide +kernel) (by decide +kernel)⟩
theorem kL_120 : gCV RL 120 mX10_back 0 := ⟨aX10_back, gT_in 1057 (by decide +kernel) (by decide +kernel), gT_in 1058 (by decide +kernel) (by decide +kernel), gT_in 1059 (by decide +kernel) (by decide +kernel)⟩
theorem kL_121 : gCV RL 121 mX9_count 1 := ⟨aX9_count, gT_in 798 (by decide +kernel) (by decide +kernel), gT_in 799 (by decide +kernel) (by decide +kernel), gT_in 800 (by decide +kernel) (by decide +kernel)⟩
theorem kL_124 : gCV RL 124 mX10_count 1 := ⟨aX10_count, gT_in 1061 (by decide +kernel) (by decide +kernel), gT_in 1062 (by decide +kernel) (by decide +kernel), gT_in 1063 (by decide +kernel) (by decide +kernel)⟩
theorem nL_7 : Cond.classLink RL 7 RX9 ∈ gTs := gT_in 58 (by decide +kernel) (by decide +kernel)
theorem nL_10 : Cond.classLink RL 10 RX10 ∈ gTs := gT_in 803 (by decide +kernel) (by decide +kernel)
/-- the law's frame -/
def lwF (p : Program) (s : State) (m : MethodId) (args : Array Value) (c : Code) (w : gW) : Prop :=
  p.tables.exec = Jvm.exec ∧ c.code = code ∧ c.maxLocals = 4 ∧ s.vm.findClass RL = some m.cls ∧ (∀ q ∈ gTs, q.before args s = true) ∧ gCx w s
section GLaw
variable {p : Program} {e : Env} {s : State} {m : MethodId} {args : Array Value} {below : List Frame} {meth : Method} {c : Code} {Q : State → Prop} {w : gW} {H : Heap} {locs : List Loc} {cells slots pc : Nat} {ls : Array Slot} {rest : List Value}
theorem lwc_call {y' : gY} {ix n : Nat} {as S : List Value} {r : Int32} {h h' : gH} {ci : Nat} {fs : List Value} {r0 : vw_C} (C : lwF p s m args c w)
    (hd : decode code pc = .ok (.invokevirtual ix, 3)) (hc : gCV RL ix y' as.length) (hfit : y'.2.2.2.2.1 + 1 ≤ 9 ∧ 8 + (y'.2.2.1 + 11) + y'.2.2.2.2.2 ≤ 322) (hM : M w gT0 false y' 0 0 h (.ref 0 :: as) (gEq h' (some (.int r)))) (has : as.map (gv w) = as) (hr0 : vwCl[ci]? = some r0) (hcl : y'.1.cls = r0.1) (he : h[0]? = some (.inr (.inr (ci, fs)))) (hls : ls.size = 4)
    (hS : as.reverse ++ .ref w.2.2.2.2 :: rest = S) (hst : (rest.map fun v => v.category).sum ≤ 8) (X1 : gHd w false n h H) (X2 : va_S (fun q => s.heap.size ≤ q) s.heap H locs) (hz : s.heap.size ≤ w.2.2.2.2) (hcs : cells ≤ 600000) (hsl : slots ≤ 7302249)
    (kk : ∀ (H' : Heap) (locs' : List Loc), gHd w false n h' H' → (∀ q : Nat, q < H.size → ¬ (w.2.2.2.2 ≤ q ∧ q < w.2.2.2.2 + n) → H'[q]? = H[q]?) → va_S (fun q => s.heap.size ≤ q) s.heap H' locs' → W p w.1 e room_1 s m args below meth c H' locs' cells slots Q (F0 m (pc + 3) ls (.int r :: rest))) :
    W p w.1 e room_1 s m args below meth c H locs cells slots Q (F0 m pc ls S) := by
  subst hS
  obtain ⟨C1, C2, C3, C4, C5, C9⟩ := C
  obtain ⟨⟨a1, a2, a3, a4, a5⟩, a6, a7, a8⟩ := hc
  have hn : h.length = n := X1.2.2 rfl
  have hargs : (Value.ref w.2.2.2.2 :: as).toArray = ((Value.ref 0 :: as).map (gv w)).toArray := by
    rw [List.map_cons, has]
    rfl
  have hrec : ∃ cellB : Cell, H[w.2.2.2.2]? = some cellB ∧ cellB.vm.isStatics = false ∧ s.vm.findClass y'.1.cls = some cellB.cls := by
    rw [hcl]
    exact va_recv C9.1 X1.1 hr0 (gw_get he)
  have hr := va_runV (p := p) (l := w.1) (e := e) (R := room_1) (s := s) (m := m) (args := args) (below := below) (meth := meth) (c := c) (H := H) (locs := locs) (cells := cells) (slots := slots) (g := F0 m pc ls (as.reverse ++ .ref w.2.2.2.2 :: rest)) (rest := rest) (As := as) (C := y'.1.cls) ⟨C1, C2, C3, C4, C5⟩ hM ⟨callB_of as.length C5 (gGood a1) rfl rfl rfl (C5 _ a2) (C5 _ a6) ⟨a3, a4, a5⟩ hfit, C5 _ a7, C5 _ a8⟩ ⟨gPc_blind, hrec, fun U hU hW => ⟨hargs, C9.warm hW, by rw [hU]; exact ⟨X1.1, X1.2.1, fun _ => rfl⟩, trivial⟩⟩ rfl rfl hls rfl (by simpa [JFrame.monitorRoom] using hst) hd ⟨hcs, hsl⟩
  intro T hT X
  obtain ⟨v, st₀, t, T', L, h0, X', hL, e1, e2, ⟨h1, r1, hv, hp, hH, hF⟩, stp⟩ := hr T hT X
  cases hv
  obtain ⟨rfl, rfl⟩ := hp
  obtain ⟨hF1, hF2⟩ := hF
  rw [h0] at hF1 hF2
  have hk := kk T'.heap (locs ++ L) (by rw [e1]; exact hH.eqn (fun _ => hn)) (fun q h1 h2 => by
    rw [e1]
    refine hF2 q h1 (fun z => h2 ⟨z.1, ?_⟩)
    rcases z.2 with z | z
    · cases z
    · rw [← hn]; exact z) ?_ T' rfl X'
  · obtain ⟨t2, b1, b2⟩ := hk
    exact ⟨t2, stp t2 b1, b2⟩
  · refine ⟨Nat.le_trans X2.1 (by rw [e1]; exact hF1), fun q g1 g2 => ?_, fun q hq => ?_⟩
    · rw [e1, hF2 q (Nat.lt_of_lt_of_le g1 X2.1) (fun z => g2 (Nat.le_trans hz z.1))]
      exact X2.2.1 q g1 g2
    · rcases List.mem_append.mp hq with g | g
      · exact X2.2.2 q g
      · exact Nat.le_trans hz (hL q g).1
theorem gPc_blindE {E : State → Prop} (hE : ∀ (a : Array Value) (U : State) (g : JFrame) (mk : MethodId), E U → E (U.calling g mk a)) {al : Bool} {h : gH} {as : List Value} : FrameBlind (gPc w E al h as) := by
  intro a U g mk q
  obtain ⟨q1, q2, q3, q4⟩ := q
  obtain ⟨z1, z2, z3, -⟩ := gPc_blind (w := w) (al := al) (h := h) (as := as) a U g mk ⟨q1, q2, q3, trivial⟩
  exact ⟨z1, z2, z3, hE a U g mk q4⟩
theorem lwc_init {E : State → Prop} {yn : MethodName} {yb : ByteArray} {yl yf yk : Nat} {ix n mc' ms' : Nat} {h h' : gH} {cs2 sl2 : Nat} (C : lwF p s m args c w)
    (hE : ∀ (a : Array Value) (U : State) (g : JFrame) (mk : MethodId), E U → E (U.calling g mk a)) (hEH : ∀ U : State, U.heap = H → s.WarmedH U.vm → E U)
    (hd : decode code pc = .ok (.invokespecial ix, 3)) (hc : gCI RL ix (yn, yb, yl, none, yf, yk) 0) (hfit : yf + 1 ≤ 9 ∧ 8 + (yl + 11) + yk ≤ 322) (hM : M w E true (yn, yb, yl, none, yf, yk) mc' ms' h [.ref 0] (gEq h' none)) (hls : ls.size = 4) (hst : (rest.map fun v => v.category).sum ≤ 8)
    (X1 : gHd w true n h H) (X2 : va_S (fun q => s.heap.size ≤ q) s.heap H locs) (hz : s.heap.size ≤ w.2.2.2.2) (e1 : cells + mc' = cs2) (e2 : slots + ms' = sl2) (hcs : cs2 ≤ 600000) (hsl : sl2 ≤ 7302249)
    (kk : ∀ (H' : Heap) (locs' : List Loc), gHd w true n h' H' → (∀ q : Nat, q < H.size → q < w.2.2.2.2 → H'[q]? = H[q]?) → va_S (fun q => s.heap.size ≤ q) s.heap H' locs' → W p w.1 e room_1 s m args below meth c H' locs' cs2 sl2 Q (F0 m (pc + 3) ls rest)) :
    W p w.1 e room_1 s m args below meth c H locs cells slots Q (F0 m pc ls (.ref w.2.2.2.2 :: rest)) := by
  subst e1
  subst e2
  obtain ⟨C1, C2, C3, C4, C5, C9⟩ := C
  obtain ⟨⟨a1, a2, a3, a4, a5⟩, a6, a7, a8, -⟩ := hc
  have hr := va_runI (p := p) (l := w.1) (e := e) (R := room_1) (s := s) (m := m) (args := args) (below := below) (meth := meth) (c := c) (H := H) (locs := locs) (cells := cells) (slots := slots) (g := F0 m pc ls (.ref w.2.2.2.2 :: rest)) (rest := rest) (As := []) (b := w.2.2.2.2) ⟨C1, C2, C3, C4, C5⟩ hM ⟨callB_of 0 C5 (gGood a1) rfl rfl rfl (C5 _ a2) (C5 _ a6) ⟨a3, a4, a5⟩ hfit, a8, C5 _ a7⟩ ⟨gPc_blindE hE, fun U hU hW => ⟨rfl, C9.warm hW, by rw [hU]; exact ⟨X1.1, X1.2.1, fun _ => rfl⟩, hEH U hU hW⟩⟩ rfl rfl hls rfl (by simpa [JFrame.monitorRoom] using hst) hd ⟨hcs, hsl⟩
  intro T hT X
  obtain ⟨v, st₀, t, T', L, h0, X', hL, e1, e2, ⟨h1, r1, hv, hp, hH, hF⟩, stp⟩ := hr T hT X
  cases hv
  obtain ⟨rfl, rfl⟩ := hp
  obtain ⟨hF1, hF2⟩ := hF
  rw [h0] at hF1 hF2
  have hk := kk T'.heap (locs ++ L) (by rw [e1]; exact hH.eqn (fun z => by cases z)) (fun q h1 h2 => by
    rw [e1]
    exact hF2 q h1 (fun z => absurd h2 (Nat.not_lt.mpr z.1))) ?_ T' rfl X'
  · obtain ⟨t2, b1, b2⟩ := hk
    exact ⟨t2, stp t2 b1, b2⟩
  · refine ⟨Nat.le_trans X2.1 (by rw [e1]; exact hF1), fun q g1 g2 => ?_, fun q hq => ?_⟩
    · rw [e1, hF2 q (Nat.lt_of_lt_of_le g1 X2.1) (fun z => g2 (Nat.le_trans hz z.1))]
      exact X2.2.1 q g1 g2
    · rcases List.mem_append.mp hq with g | g
      · exact X2.2.2 q g
      · exact Nat.le_trans hz (hL q g).1
theorem lwc_new {ix ci n : Nat} {r : vw_C} {fs : List Value} {h : gH} {N : Nat} (C : lwF p s m args c w) (hd : decode code pc = .ok (.new ix, 3)) (hc : vwCl[ci]? = some r) (hin : ∀ c ∈ u_ws r.1 r.2.1 r.2.2, c ∈ gTs) (ty : Nat → FieldType) (hty : ∀ k, k < r.2.2 → parseFieldDescriptor (r.2.1 k).2.2.1 = some (ty k))
    (h1 : Cond.classLink RL ix r.1 ∈ gTs) (h2 : Cond.instantiable r.1 r.2.2 ∈ gTs) (h3 : Cond.initialized r.1 ∈ gTs) (hfs : ∀ j, j < r.2.2 → defaultValue (ty j) = vp_V fs j) (hfv : fs.map (gv w) = fs) (hcs : cells + 1 ≤ 600000) (hsl : slots + r.2.2 ≤ 7302249) (hh : h = []) (hN : r.2.2 = N) (X1 : gHd w true n h H) (X2 : va_S (fun q => s.heap.size ≤ q) s.heap H locs)
    (kk : ∀ H1 : Heap, gHd w true n [.inr (.inr (ci, fs))] H1 → (∀ q : Nat, q < H.size → H1[q]? = H[q]?) → va_S (fun q => s.heap.size ≤ q) s.heap H1 locs → W p w.1 e room_1 s m args below meth c H1 locs (cells + 1) (slots + N) Q (F0 m (pc + 3) ls (.ref w.2.2.2.2 :: rest))) :
    W p w.1 e room_1 s m args below meth c H locs cells slots Q (F0 m pc ls rest) := by
  subst hh
  subst hN
  obtain ⟨C1, C2, C3, C4, C5, C9⟩ := C
  have hKn := C9.1.1 ci _ hc
  have hsz : H.size = w.2.2.2.2 := X1.2.1 rfl
  refine W.newcK C1 C2 C4 (C5 _ h1) (C5 _ h2) (C5 _ h3) rfl hd hcs hsl hKn.2.1 rfl fun H1 kC hkC e1 z1 o1 => ?_
  have k1 := kk H1 ⟨?_, fun _ => by rw [z1, hsz]; rfl, (fun z => by cases z)⟩ o1 ⟨Nat.le_trans X2.1 (by omega), fun x h1 h2 => (o1 x (Nat.lt_of_lt_of_le h1 X2.1)).trans (X2.2.1 x h1 h2), X2.2.2⟩
  · rw [← hsz] at k1
    exact k1
  · intro k x hx
    have hz : k < 1 := (List.getElem?_eq_some_iff.mp hx).1
    rw [show k = 0 by omega] at hx
    cases hx
    refine ⟨_, hc, ?_⟩
    show t_OB (w.2.2.2.2 + 0) _ _ _ H1 (vp_V (fs.map (gv w)))
    rw [hfv, Nat.add_zero, ← hsz]
    exact (u_born ty C5 hin hKn hkC e1 hty).to hfs
theorem lwc_tsw {l : Launch} {R : Room} {dflt lo hi : Int} {offs : Array Int} {len : Nat} {x : Int32} (hx0 : p.tables.exec = Jvm.exec) (hb : c.code = code) (hd : decode code pc = .ok (.tableswitch dflt lo hi offs, len)) (ll : List (Int32 × Nat)) (d : Nat) (h1 : gSwOk pc lo offs.toList ll = true) (h2 : (ll.map (fun q => q.1)).Nodup) (h3 : (pc : Int) + dflt = (d : Int)) (h4 : lo + offs.toList.length = hi + 1)
    (k : gSw x ll d (fun t => W p l e R s m args below meth c H locs cells slots Q (F0 m t ls rest))) : W p l e R s m args below meth c H locs cells slots Q (F0 m pc ls (.int x :: rest)) := by
  by_cases hx : x.toInt < lo ∨ hi < x.toInt
  · have k1 := gSw_in ll k (fun q hq e => by
      have h5 := gSwOk_all _ _ _ h1 q hq
      rw [← e] at h5
      omega)
    exact lv_tableOut hx0 hb hd hx h3 k1
  · have h5 : ¬ x.toInt < lo := fun z => hx (Or.inl z)
    have h6 : ¬ hi < x.toInt := fun z => hx (Or.inr z)
    have h7 : (x.toInt - lo).toNat < offs.toList.length := by omega
    have h8 : offs.toList[(x.toInt - lo).toNat]? = some offs.toList[(x.toInt - lo).toNat] := List.getElem?_eq_getElem h7
    obtain ⟨v, t, g1, g2, g3⟩ := gSwOk_at _ _ _ h1 _ _ h8
    have g4 : v = x := Int32.toInt_inj.mp (by rw [g2]; omega)
    subst g4
    have k1 := gSw_at ll k h2 g1
    exact lv_tableIn hx0 hb hd h5 h6 (by rw [← Array.getElem?_toList]; exact h8) g3 k1
/-- cells that a call leaves alone -/
theorem gHd_kept {w2 : gW} {n : Nat} {h : gH} {H H1 : Heap} (X : gHd w2 false n h H) (hk : ∀ q : Nat, q < H.size → w2.2.2.2.2 ≤ q → q < w2.2.2.2.2 + n → H1[q]? = H[q]?) : gHd w2 false n h H1 := by
  refine ⟨?_, (fun z => by cases z), X.2.2⟩
  have hD := gw_D (w := w2) (al := false) (n := n) (h := h) X.2.2
  refine X.1.kept (fun k x hx => ?_)
  have hl := (X.1 k x hx).lt
  have h2 := hD.2 k x hx
  exact hk x.1 hl h2.1 (by
    rcases h2.2 with z | z
    · cases z
    · exact z)
end GLaw
