theorem hw_L_9 : qWI RL 9 yX11_init cX11_init 2 0 := ⟨⟨(AW_m 58 (by decide +kernel) rfl), (AW_m 59 (by decide +kernel) rfl), (AW_m 42 (by decide +kernel) rfl), cw_X11_init⟩, rfl, by decide +kernel⟩
theorem hw_L_13 : qWV RL 13 RX11 yX11_letter cX11_letter 2 (some .int) 1 := ⟨⟨(AW_m 242 (by decide +kernel) rfl), (AW_m 243 (by decide +kernel) rfl), (AW_m 244 (by decide +kernel) rfl), (AW_m 42 (by decide +kernel) rfl), cw_X11_letter⟩, by decide +kernel⟩
theorem hw_L_18 : qWV RL 18 RX11 yX11_blank cX11_blank 2 (some .int) 0 := ⟨⟨(AW_m 250 (by decide +kernel) rfl), (AW_m 251 (by decide +kernel) rfl), (AW_m 252 (by decide +kernel) rfl), (AW_m 42 (by decide +kernel) rfl), cw_X11_blank⟩, by decide +kernel⟩
theorem hw_L_23 : qWV RL 23 RX11 yX11_fault cX11_fault 1 (some .int) 0 := ⟨⟨(AW_m 254 (by decide +kernel) rfl), (AW_m 255 (by decide +kernel) rfl), (AW_m 256 (by decide +kernel) rfl), (AW_m 42 (by decide +kernel) rfl), cw_X11_fault⟩, by decide +kernel⟩
theorem hw_L_27 : qWV RL 27 RX11 yX11_station cX11_station 2 (some .int) 0 := ⟨⟨(AW_m 278 (by decide +kernel) rfl), (AW_m 279 (by decide +kernel) rfl), (AW_m 280 (by decide +kernel) rfl), (AW_m 42 (by decide +kernel) rfl), cw_X11_station⟩, by decide +kernel⟩
theorem hw_L_31 : qWV RL 31 RX11 yX11_follows cX11_follows 3 (some .int) 2 := ⟨⟨(AW_m 327 (by decide +kernel) rfl), (AW_m 328 (by decide +kernel) rfl), (AW_m 329 (by decide +kernel) rfl), (AW_m 42 (by decide +kernel) rfl), cw_X11_follows⟩, by decide +kernel⟩
theorem hw_L_36 : qWV RL 36 RX11 yX11_reading cX11_reading 2 (some .int) 1 := ⟨⟨(AW_m 339 (by decide +kernel) rfl), (AW_m 340 (by decide +kernel) rfl), (AW_m 341 (by decide +kernel) rfl), (AW_m 42 (by decide +kernel) rfl), cw_X11_reading⟩, by decide +kernel⟩
theorem hw_L_40 : qWV RL 40 RX11 yX11_told cX11_told 2 (some .int) 1 := ⟨⟨(AW_m 355 (by decide +kernel) rfl), (AW_m 356 (by decide +kernel) rfl), (AW_m 357 (by decide +kernel) rfl), (AW_m 42 (by decide +kernel) rfl), cw_X11_told⟩, by decide +kernel⟩
theorem hw_L_44 : qWV RL 44 RX11 yX11_day cX11_day 4 (some .int) 1 := ⟨⟨(AW_m 360 (by decide +kernel) rfl), (AW_m 361 (by decide +kernel) rfl), (AW_m 362 (by decide +kernel) rfl), (AW_m 42 (by decide +kernel) rfl), cw_X11_day⟩, by decide +kernel⟩
theorem hw_L_48 : qWV RL 48 RX11 yX11_person cX11_person 5 (some .int) 3 := ⟨⟨(AW_m 415 (by decide +kernel) rfl), (AW_m 416 (by decide +kernel) rfl), (AW_m 417 (by decide +kernel) rfl), (AW_m 42 (by decide +kernel) rfl), cw_X11_person⟩, by decide +kernel⟩
theorem hw_L_53 : qWV RL 53 RX11 yX11_about cX11_about 4 (some .int) 2 := ⟨⟨(AW_m 484 (by decide +kernel) rfl), (AW_m 485 (by decide +kernel) rfl), (AW_m 486 (by decide +kernel) rfl), (AW_m 42 (by decide +kernel) rfl), cw_X11_about⟩, by decide +kernel⟩
theorem hw_L_57 : qWV RL 57 RX11 yX11_as cX11_as 4 (some .int) 2 := ⟨⟨(AW_m 510 (by decide +kernel) rfl), (AW_m 511 (by decide +kernel) rfl), (AW_m 512 (by decide +kernel) rfl), (AW_m 42 (by decide +kernel) rfl), cw_X11_as⟩, by decide +kernel⟩
theorem hw_L_61 : qWV RL 61 RX11 yX11_likely cX11_likely 4 (some .long) 3 := ⟨⟨(AW_m 517 (by decide +kernel) rfl), (AW_m 518 (by decide +kernel) rfl), (AW_m 519 (by decide +kernel) rfl), (AW_m 42 (by decide +kernel) rfl), cw_X11_likely⟩, by decide +kernel⟩
theorem hw_L_66 : qWV RL 66 RX11 yX11_likeliest cX11_likeliest 1 (some .int) 0 := ⟨⟨(AW_m 535 (by decide +kernel) rfl), (AW_m 536 (by decide +kernel) rfl), (AW_m 537 (by decide +kernel) rfl), (AW_m 42 (by decide +kernel) rfl), cw_X11_likeliest⟩, by decide +kernel⟩
theorem hw_L_70 : qWV RL 70 RX11 yX11_ways cX11_ways 1 (some .int) 0 := ⟨⟨(AW_m 543 (by decide +kernel) rfl), (AW_m 544 (by decide +kernel) rfl), (AW_m 545 (by decide +kernel) rfl), (AW_m 42 (by decide +kernel) rfl), cw_X11_ways⟩, by decide +kernel⟩
theorem hw_L_74 : qWV RL 74 RX11 yX11_sure cX11_sure 2 (some .int) 1 := ⟨⟨(AW_m 551 (by decide +kernel) rfl), (AW_m 552 (by decide +kernel) rfl), (AW_m 553 (by decide +kernel) rfl), (AW_m 42 (by decide +kernel) rfl), cw_X11_sure⟩, by decide +kernel⟩
theorem hw_L_78 : qWV RL 78 RX11 yX11_look cX11_look 9 (some .long) 3 := ⟨⟨(AW_m 556 (by decide +kernel) rfl), (AW_m 557 (by decide +kernel) rfl), (AW_m 558 (by decide +kernel) rfl), (AW_m 42 (by decide +kernel) rfl), cw_X11_look⟩, by decide +kernel⟩
theorem hw_L_82 : qWV RL 82 RX11 yX11_book cX11_book 3 (some .int) 2 := ⟨⟨(AW_m 568 (by decide +kernel) rfl), (AW_m 569 (by decide +kernel) rfl), (AW_m 570 (by decide +kernel) rfl), (AW_m 42 (by decide +kernel) rfl), cw_X11_book⟩, by decide +kernel⟩
theorem hw_L_86 : qWV RL 86 RX11 yX11_forget cX11_forget 2 (some .int) 0 := ⟨⟨(AW_m 576 (by decide +kernel) rfl), (AW_m 577 (by decide +kernel) rfl), (AW_m 578 (by decide +kernel) rfl), (AW_m 42 (by decide +kernel) rfl), cw_X11_forget⟩, by decide +kernel⟩
theorem hw_L_90 : qWV RL 90 RX11 yX11_wrong cX11_wrong 2 (some .int) 1 := ⟨⟨(AW_m 580 (by decide +kernel) rfl), (AW_m 581 (by decide +kernel) rfl), (AW_m 582 (by decide +kernel) rfl), (AW_m 42 (by decide +kernel) rfl), cw_X11_wrong⟩, by decide +kernel⟩
theorem hw_L_94 : qWV RL 94 RX11 yX11_earliest cX11_earliest 4 (some .int) 0 := ⟨⟨(AW_m 592 (by decide +kernel) rfl), (AW_m 593 (by decide +kernel) rfl), (AW_m 594 (by decide +kernel) rfl), (AW_m 42 (by decide +kernel) rfl), cw_X11_earliest⟩, by decide +kernel⟩
theorem hw_L_98 : qWV RL 98 RX11 yX11_days cX11_days 5 (some .int) 3 := ⟨⟨(AW_m 600 (by decide +kernel) rfl), (AW_m 601 (by decide +kernel) rfl), (AW_m 602 (by decide +kernel) rfl), (AW_m 42 (by decide +kernel) rfl), cw_X11_days⟩, by decide +kernel⟩
theorem hw_L_102 : qWV RL 102 RX11 yX11_image cX11_image 3 (some .int) 0 := ⟨⟨(AW_m 634 (by decide +kernel) rfl), (AW_m 635 (by decide +kernel) rfl), (AW_m 636 (by decide +kernel) rfl), (AW_m 42 (by decide +kernel) rfl), cw_X11_image⟩, by decide +kernel⟩
theorem hw_L_106 : qWV RL 106 RX11 yX11_restore cX11_restore 3 (some .int) 0 := ⟨⟨(AW_m 650 (by decide +kernel) rfl), (AW_m 651 (by decide +kernel) rfl), (AW_m 652 (by decide +kernel) rfl), (AW_m 42 (by decide +kernel) rfl), cw_X11_restore⟩, by decide +kernel⟩
theorem hw_L_110 : qWV RL 110 RX11 yX11_count cX11_count 2 (some .int) 1 := ⟨⟨(AW_m 654 (by decide +kernel) rfl), (AW_m 655 (by decide +kernel) rfl), (AW_m 656 (by decide +kernel) rfl), (AW_m 42 (by decide +kernel) rfl), cw_X11_count⟩, by decide +kernel⟩
theorem hw_L_114 : qWV RL 114 RX11 yX11_digest cX11_digest 4 (some .long) 0 := ⟨⟨(AW_m 662 (by decide +kernel) rfl), (AW_m 663 (by decide +kernel) rfl), (AW_m 664 (by decide +kernel) rfl), (AW_m 42 (by decide +kernel) rfl), cw_X11_digest⟩, by decide +kernel⟩
theorem hw_L_12 : qWI RL 12 yX12_init cX12_init 1 0 := ⟨⟨(AW_m 693 (by decide +kernel) rfl), (AW_m 694 (by decide +kernel) rfl), (AW_m 49 (by decide +kernel) rfl), cw_X12_init⟩, rfl, by decide +kernel⟩
theorem hw_L_17 : qWV RL 17 RX12 yX12_letter cX12_letter 2 (some .int) 1 := ⟨⟨(AW_m 807 (by decide +kernel) rfl), (AW_m 808 (by decide +kernel) rfl), (AW_m 809 (by decide +kernel) rfl), (AW_m 49 (by decide +kernel) rfl), cw_X12_letter⟩, by decide +kernel⟩
theorem hw_L_22 : qWV RL 22 RX12 yX12_blank cX12_blank 2 (some .int) 0 := ⟨⟨(AW_m 814 (by decide +kernel) rfl), (AW_m 815 (by decide +kernel) rfl), (AW_m 816 (by decide +kernel) rfl), (AW_m 49 (by decide +kernel) rfl), cw_X12_blank⟩, by decide +kernel⟩
theorem hw_L_26 : qWV RL 26 RX12 yX12_fault cX12_fault 1 (some .int) 0 := ⟨⟨(AW_m 818 (by decide +kernel) rfl), (AW_m 819 (by decide +kernel) rfl), (AW_m 820 (by decide +kernel) rfl), (AW_m 49 (by decide +kernel) rfl), cw_X12_fault⟩, by decide +kernel⟩
theorem hw_L_30 : qWV RL 30 RX12 yX12_station cX12_station 3 (some .int) 0 := ⟨⟨(AW_m 834 (by decide +kernel) rfl), (AW_m 835 (by decide +kernel) rfl), (AW_m 836 (by decide +kernel) rfl), (AW_m 49 (by decide +kernel) rfl), cw_X12_station⟩, by decide +kernel⟩
theorem hw_L_35 : qWV RL 35 RX12 yX12_follows cX12_follows 3 (some .int) 2 := ⟨⟨(AW_m 838 (by decide +kernel) rfl), (AW_m 839 (by decide +kernel) rfl), (AW_m 840 (by decide +kernel) rfl), (AW_m 49 (by decide +kernel) rfl), cw_X12_follows⟩, by decide +kernel⟩
theorem hw_L_39 : qWV RL 39 RX12 yX12_reading cX12_reading 3 (some .int) 1 := ⟨⟨(AW_m 845 (by decide +kernel) rfl), (AW_m 846 (by decide +kernel) rfl), (AW_m 847 (by decide +kernel) rfl), (AW_m 49 (by decide +kernel) rfl), cw_X12_reading⟩, by decide +kernel⟩
theorem hw_L_43 : qWV RL 43 RX12 yX12_told cX12_told 2 (some .int) 1 := ⟨⟨(AW_m 868 (by decide +kernel) rfl), (AW_m 869 (by decide +kernel) rfl), (AW_m 870 (by decide +kernel) rfl), (AW_m 49 (by decide +kernel) rfl), cw_X12_told⟩, by decide +kernel⟩
theorem hw_L_47 : qWV RL 47 RX12 yX12_day cX12_day 2 (some .int) 1 := ⟨⟨(AW_m 872 (by decide +kernel) rfl), (AW_m 873 (by decide +kernel) rfl), (AW_m 874 (by decide +kernel) rfl), (AW_m 49 (by decide +kernel) rfl), cw_X12_day⟩, by decide +kernel⟩
theorem hw_L_52 : qWV RL 52 RX12 yX12_person cX12_person 4 (some .int) 3 := ⟨⟨(AW_m 884 (by decide +kernel) rfl), (AW_m 885 (by decide +kernel) rfl), (AW_m 886 (by decide +kernel) rfl), (AW_m 49 (by decide +kernel) rfl), cw_X12_person⟩, by decide +kernel⟩
theorem hw_L_56 : qWV RL 56 RX12 yX12_about cX12_about 3 (some .int) 2 := ⟨⟨(AW_m 888 (by decide +kernel) rfl), (AW_m 889 (by decide +kernel) rfl), (AW_m 890 (by decide +kernel) rfl), (AW_m 49 (by decide +kernel) rfl), cw_X12_about⟩, by decide +kernel⟩
theorem hw_L_60 : qWV RL 60 RX12 yX12_as cX12_as 4 (some .int) 2 := ⟨⟨(AW_m 900 (by decide +kernel) rfl), (AW_m 901 (by decide +kernel) rfl), (AW_m 902 (by decide +kernel) rfl), (AW_m 49 (by decide +kernel) rfl), cw_X12_as⟩, by decide +kernel⟩
theorem hw_L_65 : qWV RL 65 RX12 yX12_likely cX12_likely 4 (some .long) 3 := ⟨⟨(AW_m 904 (by decide +kernel) rfl), (AW_m 905 (by decide +kernel) rfl), (AW_m 906 (by decide +kernel) rfl), (AW_m 49 (by decide +kernel) rfl), cw_X12_likely⟩, by decide +kernel⟩
theorem hw_L_69 : qWV RL 69 RX12 yX12_likeliest cX12_likeliest 1 (some .int) 0 := ⟨⟨(AW_m 918 (by decide +kernel) rfl), (AW_m 919 (by decide +kernel) rfl), (AW_m 920 (by decide +kernel) rfl), (AW_m 49 (by decide +kernel) rfl), cw_X12_likeliest⟩, by decide +kernel⟩
theorem hw_L_73 : qWV RL 73 RX12 yX12_ways cX12_ways 1 (some .int) 0 := ⟨⟨(AW_m 927 (by decide +kernel) rfl), (AW_m 928 (by decide +kernel) rfl), (AW_m 929 (by decide +kernel) rfl), (AW_m 49 (by decide +kernel) rfl), cw_X12_ways⟩, by decide +kernel⟩
theorem hw_L_77 : qWV RL 77 RX12 yX12_sure cX12_sure 2 (some .int) 1 := ⟨⟨(AW_m 935 (by decide +kernel) rfl), (AW_m 936 (by decide +kernel) rfl), (AW_m 937 (by decide +kernel) rfl), (AW_m 49 (by decide +kernel) rfl), cw_X12_sure⟩, by decide +kernel⟩
theorem hw_L_81 : qWV RL 81 RX12 yX12_look cX12_look 4 (some .long) 3 := ⟨⟨(AW_m 943 (by decide +kernel) rfl), (AW_m 944 (by decide +kernel) rfl), (AW_m 945 (by decide +kernel) rfl), (AW_m 49 (by decide +kernel) rfl), cw_X12_look⟩, by decide +kernel⟩
theorem hw_L_85 : qWV RL 85 RX12 yX12_book cX12_book 3 (some .int) 2 := ⟨⟨(AW_m 955 (by decide +kernel) rfl), (AW_m 956 (by decide +kernel) rfl), (AW_m 957 (by decide +kernel) rfl), (AW_m 49 (by decide +kernel) rfl), cw_X12_book⟩, by decide +kernel⟩
theorem hw_L_89 : qWV RL 89 RX12 yX12_forget cX12_forget 2 (some .int) 0 := ⟨⟨(AW_m 959 (by decide +kernel) rfl), (AW_m 960 (by decide +kernel) rfl), (AW_m 961 (by decide +kernel) rfl), (AW_m 49 (by decide +kernel) rfl), cw_X12_forget⟩, by decide +kernel⟩
theorem hw_L_93 : qWV RL 93 RX12 yX12_wrong cX12_wrong 2 (some .int) 1 := ⟨⟨(AW_m 963 (by decide +kernel) rfl), (AW_m 964 (by decide +kernel) rfl), (AW_m 965 (by decide +kernel) rfl), (AW_m 49 (by decide +kernel) rfl), cw_X12_wrong⟩, by decide +kernel⟩
theorem hw_L_97 : qWV RL 97 RX12 yX12_earliest cX12_earliest 1 (some .int) 0 := ⟨⟨(AW_m 971 (by decide +kernel) rfl), (AW_m 972 (by decide +kernel) rfl), (AW_m 973 (by decide +kernel) rfl), (AW_m 49 (by decide +kernel) rfl), cw_X12_earliest⟩, by decide +kernel⟩
theorem hw_L_101 : qWV RL 101 RX12 yX12_days cX12_days 4 (some .int) 3 := ⟨⟨(AW_m 979 (by decide +kernel) rfl), (AW_m 980 (by decide +kernel) rfl), (AW_m 981 (by decide +kernel) rfl), (AW_m 49 (by decide +kernel) rfl), cw_X12_days⟩, by decide +kernel⟩
theorem hw_L_105 : qWV RL 105 RX12 yX12_image cX12_image 2 (some .int) 0 := ⟨⟨(AW_m 1003 (by decide +kernel) rfl), (AW_m 1004 (by decide +kernel) rfl), (AW_m 1005 (by decide +kernel) rfl), (AW_m 49 (by decide +kernel) rfl), cw_X12_image⟩, by decide +kernel⟩
theorem hw_L_109 : qWV RL 109 RX12 yX12_restore cX12_restore 2 (some .int) 0 := ⟨⟨(AW_m 1007 (by decide +kernel) rfl), (AW_m 1008 (by decide +kernel) rfl), (AW_m 1009 (by decide +kernel) rfl), (AW_m 49 (by decide +kernel) rfl), cw_X12_restore⟩, by decide +kernel⟩
theorem hw_L_113 : qWV RL 113 RX12 yX12_count cX12_count 2 (some .int) 1 := ⟨⟨(AW_m 1011 (by decide +kernel) rfl), (AW_m 1012 (by decide +kernel) rfl), (AW_m 1013 (by decide +kernel) rfl), (AW_m 49 (by decide +kernel) rfl), cw_X12_count⟩, by decide +kernel⟩
theorem hw_L_118 : qWV RL 118 RX12 yX12_digest cX12_digest 3 (some .long) 0 := ⟨⟨(AW_m 1023 (by decide +kernel) rfl), (AW_m 1024 (by decide +kernel) rfl), (AW_m 1025 (by decide +kernel) rfl), (AW_m 49 (by decide +kernel) rfl), cw_X12_digest⟩, by decide +kernel⟩
/-! THE CLAIM OUT OF ONE WALK OF THE LAW'S BODY. Your part is whole_start (and what it stands on); all else here is the same for every law, but numbers. -/
def R_law : String := "EarlyGaugeLaw"
def lw_P (b : Addr) (xs : List Int32) (args : Array Value) (s : State) : Prop := args = #[.ref b] ∧ s.IntsAt b xs ∧ xs.length ≤ 2048 ∧ (Jvm.Cond.and given_1 narrow_1).before args s = true
def lw_Q (_ : Array Value) (s : State) (o : Outcome) (t : State) : Prop := o = .returned (some (.int 1)) ∧ Framed s o t [] 653995 7140263
def lw_Z (below : List Frame) (a : Array Value) (s : State) : State → Prop := fun t => ∃ o, t.status = .running ∧ Ended t below o ∧ lw_Q a s o t
/-- the law's own end, with 1 on the stack, nothing written that was there before, its room as the claim has it -/
theorem lw_ret {p : Program} {l : Launch} {e : Env} {s : State} {m : MethodId} {below : List Frame} {meth : Method} {c : Code} {b : Nat} (hx : p.tables.exec = Jvm.exec) (hb : c.code = code) (hr : meth.sig.returnType = ret) (hlocks : meth.locks = false) {pc : Nat} {H : Heap} {ls : Array Slot} (hdg : decode code pc = .ok (.ireturn, 1)) : W p l e room_1 s m #[Value.ref b] below meth c H [] 653995 7140263 (lw_Z below #[Value.ref b] s) (F0 m pc ls [.int 1]) := by
  intro T hT X
  obtain ⟨fs, hret, hrun, hended, hW, hframe⟩ := X.leave (v := some (.int 1)) (hlocks := hlocks) (fun h => by rw [hr] at h; cases h)
  have hmeth' : T.vm.method? m = some meth := X.method'
  refine ⟨T.setFrames fs, ?_, .returned (some (.int 1)), hrun, hended, rfl, ⟨_, rfl⟩, hW, hframe⟩
  jvm_step X.here [X.here.top, hx, hb, hdg, hmeth', hr, ret, narrow_b1]
  (try refine ⟨rfl, ?_⟩); (try refine ⟨rfl, ?_⟩)
  first | (intro acts; rw [hret _ acts rfl rfl rfl]) | rw [hret _ _ rfl rfl rfl]
  exact Steps.refl _
/-- what holds at the law's entry: the machine, the code, the tables' words (any of lw_tbl by 'hts w (by decide +kernel)'), the script of L ints xs at the cell b, what the Statement gives of the start (any of its parts by flat_of_before) -/
def lw_At (p : Program) (s : State) (m : MethodId) (meth : Method) (c : Code) (b L : Nat) (xs : Nat → Int32) : Prop :=
  p.tables.exec = Jvm.exec ∧ c.code = code ∧ meth.sig.returnType = ret ∧ c.maxLocals = 4 ∧ s.vm.findClass R_law = some m.cls ∧ (∀ w ∈ lw_tbl, w.before #[Value.ref b] s = true) ∧ va_X b L xs s s.heap ∧ b < s.heap.size ∧ meth.locks = false ∧ (Jvm.Cond.and given_1 narrow_1).before #[Value.ref b] s = true
/-! rows of the law's own walk -/
theorem Cls.fr {D : va_G} {h h1 : qH} {x : Nat} {σ : sg} (H : Cls D h x σ) (o : ∀ q, ((x ≤ q ∧ q < x + 118) ∨ x + 134 ≤ q) → h1 q = h q) : Cls D h1 x σ := by
  obtain ⟨a1, a2, a3, a4, a5, a6, a7, a8, a9⟩ := H
  exact ⟨a1, a2.fr (fun q g1 g2 => o q (by omega)), a3.fr (fun q g1 g2 => o q (by omega)), a4.fr (fun q g1 g2 => o q (by omega)), a5.fr (fun q g1 g2 => o q (by omega)), a6.fr (fun q g => o q (by omega)), a7.fr (fun q g1 g2 => o q (by omega)), a8.fr (fun q g1 g2 => o q (by omega)), a9.fr (fun q g1 g2 => o q (by omega))⟩
theorem MdlAt.fr {D : va_G} {h h1 : qH} {m : Nat} {σ : sg} (H : MdlAt D h m σ) (o : ∀ q, m ≤ q → q < m + 16 → h1 q = h q) : MdlAt D h1 m σ := by
  obtain ⟨s18, s19, s20, s23, s24, s35, f21, f22, hM, hR⟩ := H
  exact ⟨s18, s19, s20, s23, s24, s35, f21, f22, (o m (Nat.le_refl _) (by omega)).trans hM, hR.fr (fun q g1 g2 => o q (by omega) (by omega))⟩
section QCALLP
variable {X : qX} {D : va_G} {b : Nat} {l : Launch} {R : Room} {cc : ByteArray} {own : String} {nL : Nat} {k n z : Nat} {h : qH} {pc pc' : Nat} {L : List (Nat × Value)} {st stk : List Value}
variable {y : MethodName} {cy : ByteArray} {nl f lo mc ms na index : Nat} {rt : FieldType} {As : List Value}
theorem g_callVp (C : qC X D b l R cc own nL) {post : Int32 → qH → Nat → Prop} {a : Nat} {ci : Nat} {fs : List Value} {q : vw_C} (hM : qMp l D b y cy nl rt f lo mc ms (.ref a :: As) h z post) (hw : qWV own index q.1 y cy nl (some rt) na) (he : h a = some (.inr (ci, fs))) (hcl : vwCl[ci]? = some q) (hR : f + 1 ≤ R.frames ∧ 8 + (nl + 11) + lo ≤ R.locals) (hn : As.length = na) (hstk : stk = As.reverse ++ .ref a :: st) (hcat : (st.map fun v => v.category).sum ≤ 8) (hf : k + mc ≤ R.cells ∧ n + ms ≤ R.slots) (hdg : decode cc pc = .ok (.invokevirtual index, 3)) (hp : pc + 3 = pc') (kk : ∀ r h1 z1, post r h1 z1 → qG X (k + mc) (n + ms) z1 h1 pc' L (.int r :: st)) : qG X k n z h pc L stk := by
  obtain ⟨D0, b0, p, l0, e, R0, s, m, args, below, meth, c, nL0, Q⟩ := X
  obtain ⟨rfl, rfl, rfl, rfl, rfl, hx, hb, hml, hown, hts, hK, hbs⟩ := C
  subst hp
  intro H locs ls hP hS hl
  exact va_calli (va_runV (As := As) (rest := st) ⟨hx, hb, hml, hown, hts⟩ hM (cwV na hts (AW_app (a := [.methodLink own index y, .instanceMethod y, .selects q.1 y y, .initialized q.1]) (by intro w hw'; simp only [List.mem_cons, List.not_mem_nil, or_false] at hw'; rcases hw' with rfl | rfl | rfl | rfl <;> first | exact hw.1.1 | exact hw.1.2.1 | exact hw.1.2.2.1 | exact hw.1.2.2.2.1) (AW_in hw.1.2.2.2.2)) rfl rfl rfl hw.2 hR) ⟨qBlind, va_recv hK.1 (hP.one he) hcl (q0 := 0) rfl, fun U hU hW => ⟨rfl, by rw [hU]; exact hP, hK.warm hW⟩⟩ rfl hn hl.1 hstk (lv_room hcat) hdg hf) hS (fun q _ h => h) (fun q h => h) (fun r u t H1 locs ht hvm hpost hB hz hkeep hS => kk r u.1 u.2 hpost H1 locs ls (by rw [← ht]; exact hB) hS hl)
theorem g_lt (kk : (∀ q e, h q = some e → q < z) → qG X k n z h pc L st) : qG X k n z h pc L st := by
  obtain ⟨D0, b0, p, l0, e, R0, s, m, args, below, meth, c, nL0, Q⟩ := X
  intro H locs ls hP hS hl
  exact kk (fun q e he => hP.lt he) H locs ls hP hS hl
end QCALLP
/-- the law's own walk -/
def lX (D : va_G) (p : Program) (l : Launch) (e : Env) (s : State) (m : MethodId) (b : Nat) (below : List Frame) (meth : Method) (c : Code) : qX := (D, s.heap.size, p, l, e, room_1, s, m, #[Value.ref b], below, meth, c, 4, lw_Z below #[Value.ref b] s)
section LAWROWS
variable {D : va_G} {p : Program} {l : Launch} {e : Env} {s : State} {m : MethodId} {b : Nat} {below : List Frame} {meth : Method} {c : Code} {L : Nat} {xs : Nat → Int32} {k n z : Nat} {h : qH} {pc pc' : Nat} {Lc : List (Nat × Value)} {st : List Value}
theorem lC (C0 : lw_At p s m meth c b L xs) (hK : qK D s) : qC (lX D p l e s m b below meth c) D s.heap.size l room_1 cL_law RL 4 := by
  obtain ⟨hx, hb, hr, hml, hown, hts, hX, hbl, hlocks, hgv⟩ := C0
  exact ⟨rfl, rfl, rfl, rfl, rfl, hx, hb, hml, hown, fun w hw => hts w (List.mem_filter.mp hw).1, hK, Nat.le_refl _⟩
theorem l_sld (C0 : lw_At p s m meth c b L xs) {i : Nat} (hi : i < L) (hL : L ≤ 2048) (hdg : decode cL_law pc = .ok (.iaload, 1)) (hp : pc + 1 = pc') (kk : qG (lX D p l e s m b below meth c) k n z h pc' Lc (.int (xs i) :: st)) : qG (lX D p l e s m b below meth c) k n z h pc Lc (.int (nI i) :: .ref b :: st) := by
  obtain ⟨hx, hb, hr, hml, hown, hts, hX, hbl, hlocks, hgv⟩ := C0
  subst hp
  intro H locs ls hP hS hl
  refine va_sld hx hb hX hbl (Nat.not_le.mpr hbl) hS (vp_in_nI hi (by omega)) hdg ?_
  rw [nI_clamp (show i < 2 ^ 31 by omega)]
  exact kk H locs ls hP hS hl
theorem l_slen (C0 : lw_At p s m meth c b L xs) (hdg : decode cL_law pc = .ok (.arraylength, 1)) (hp : pc + 1 = pc') (kk : qG (lX D p l e s m b below meth c) k n z h pc' Lc (.int (nI L) :: st)) : qG (lX D p l e s m b below meth c) k n z h pc Lc (.ref b :: st) := by
  obtain ⟨hx, hb, hr, hml, hown, hts, hX, hbl, hlocks, hgv⟩ := C0
  subst hp
  intro H locs ls hP hS hl
  exact va_slen hx hb hX hbl (Nat.not_le.mpr hbl) hS hdg (kk H locs ls hP hS hl)
theorem l_ret (C0 : lw_At p s m meth c b L xs) (hk : k ≤ 653995) (hn : n ≤ 7140263) (hdg : decode cL_law pc = .ok (.ireturn, 1)) : qG (lX D p l e s m b below meth c) k n z h pc Lc [.int 1] := by
  obtain ⟨hx, hb, hr, hml, hown, hts, hX, hbl, hlocks, hgv⟩ := C0
  intro H locs ls hP hS hl
  refine va_forget (fun q hq => hS.2.2 q hq) ?_
  refine W.widen (k := 653995) (n := 7140263) hk hn ?_
  exact lw_ret hx hb hr hlocks hdg
end LAWROWS
theorem l_end {L i : Nat} (hL : L ≤ 2048) (hi : i ≤ 4096) : (nI L - 4 < nI i) ↔ L < i + 4 := by
  by_cases g : 4 ≤ L
  · rw [show nI L - 4 = nI (L - 4) from nI_sub' (a := L) (b := 4) g, nI_ltI (by omega) (by omega)]
    omega
  · refine ⟨fun _ => by omega, fun _ => ?_⟩
    have e : ∀ L, L < 4 → (nI L - 4).toInt < 0 := by decide
    refine Int32.lt_iff_toInt_lt.mpr ?_
    rw [nI_toInt (show i < 2 ^ 31 by omega)]
    have := e L (by omega)
    omega
theorem swl (x : Int32) (h : ∀ j, j < 25 → ¬ x = nI j) : x.toInt < 0 ∨ 24 < x.toInt := by
  rcases Int.lt_or_le x.toInt 0 with g | g
  · exact Or.inl g
  · rcases Int.lt_or_le 24 x.toInt with g2 | g2
    · exact Or.inr g2
    · exfalso
      have h0 : ¬ x < 0 := fun q => by
        have q1 := Int32.lt_iff_toInt_lt.mp q
        have e0 : (0 : Int32).toInt = 0 := by decide
        omega
      obtain ⟨j, hj, rfl⟩ := nI_of h0
      rw [nI_toInt hj] at g2
      exact h j (by omega) rfl
theorem lcz {x y : Int64} (h : x = y) : lg_cmp x y = 0 := (lg_cmp_eq x y).mpr h
/-! stations counted -/
theorem n1_letter (σ : sg) (c : Int32) : gN (oLetter σ c).2 1 = gN σ 1 := by unfold oLetter; split; (split; rfl; rfl); rfl
theorem n1_book (σ : sg) (v w : Int32) : gN (oBook σ v w).2 1 = gN σ 1 := by
  unfold oBook
  by_cases h : inP 0 2 v ∧ (w = -1 ∨ inP 0 2 w)
  · rw [cIf_t h]; split; rfl; rfl
  · rw [cIf_f h]
theorem n1_reading (σ : sg) (v : Int32) : gN (oReading σ v).2 1 = gN σ 1 := by
  unfold oReading
  by_cases h : inP 0 2 v
  · rw [cIf_t h]; split; (split; rfl; rfl); rfl
  · rw [cIf_f h]
theorem n1_station (σ : sg) : gN (oStation σ).2 1 ≤ gN σ 1 + 1 := by
  unfold oStation
  by_cases h : gN σ 16 = 14 ∧ ∀ j, j < 14 → pgG (gB σ 17) j
  · rw [cIf_t h]; exact Nat.le_refl _
  · rw [cIf_f h]; exact Nat.le_succ _
theorem n1_day (σ : sg) (v : Int32) : gN (oDay σ v).2 1 = gN σ 1 := by
  unfold oDay
  by_cases h : inP 0 2 v
  · rw [cIf_t h]; split; (split; rfl; rfl); rfl
  · rw [cIf_f h]
theorem n1_person (σ : sg) (k c t : Int32) : gN (oPerson σ k c t).2 1 = gN σ 1 := by
  unfold oPerson
  by_cases h : inP 0 4 k ∧ inP 1 9 c ∧ inP 1 9 t
  · rw [cIf_t h]; split; (split; rfl; rfl); rfl
  · rw [cIf_f h]
theorem n1_image (σ : sg) : gN (oImage σ).2 1 = gN σ 1 := by unfold oImage; split; rfl; rfl
theorem n1_restore (σ : sg) : gN (oRestore σ).2 1 = gN σ 1 := by
  unfold oRestore
  by_cases h : imK σ
  · rw [cIf_t h]; rfl
  · rw [cIf_f h]
