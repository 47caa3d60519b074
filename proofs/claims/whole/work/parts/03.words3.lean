/-! words of the tables, by their places -/
set_option maxRecDepth 100000 in
theorem tw_730 : Cond.selects "OrganConsole$Keywork" ⟨"OrganConsole$Keywork", "notesReached", "()I"⟩ ⟨"OrganConsole$Keywork", "notesReached", "()I"⟩ ∈ TB := tb_of 730 (by rfl) (by rfl)
set_option maxRecDepth 100000 in
theorem tw_731 : Cond.code ⟨"OrganConsole$Keywork", "notesReached", "()I"⟩ prog_3_method_4_code 3 (some FieldType.int) ∈ TB := tb_of 731 (by rfl) (by rfl)
set_option maxRecDepth 100000 in
theorem tw_732 : Cond.methodLink "OrganConsole$Keywork" 39 ⟨"OrganConsole$Keywork", "reachedBetween", "(III)I"⟩ ∈ TB := tb_of 732 (by rfl) (by rfl)
set_option maxRecDepth 100000 in
theorem tw_734 : Cond.classLink "OrganConsoleLaw" 87 "OrganConsoleModel" ∈ TB := tb_of 734 (by rfl) (by rfl)
set_option maxRecDepth 100000 in
theorem tw_735 : Cond.instantiable "OrganConsoleModel" 29 ∈ TB := tb_of 735 (by rfl) (by rfl)
set_option maxRecDepth 100000 in
theorem tw_736 : Cond.methodLink "OrganConsoleLaw" 89 ⟨"OrganConsoleModel", "<init>", "()V"⟩ ∈ TB := tb_of 736 (by rfl) (by rfl)
set_option maxRecDepth 100000 in
theorem tw_737 : Cond.instanceMethod ⟨"OrganConsoleModel", "<init>", "()V"⟩ ∈ TB := tb_of 737 (by rfl) (by rfl)
set_option maxRecDepth 100000 in
theorem tw_738 : Cond.code ⟨"OrganConsoleModel", "<init>", "()V"⟩ prog_8_method_1_code 1 none ∈ TB := tb_of 738 (by rfl) (by rfl)
set_option maxRecDepth 100000 in
theorem tw_739 : Cond.methodLink "OrganConsoleModel" 1 ⟨"java/lang/Object", "<init>", "()V"⟩ ∈ TB := tb_of 739 (by rfl) (by rfl)
set_option maxRecDepth 100000 in
theorem tw_740 : Cond.constant "OrganConsoleModel" 57 (42624 : Int32) ∈ TB := tb_of 740 (by rfl) (by rfl)
set_option maxRecDepth 100000 in
theorem tw_741 : Cond.fieldLink "OrganConsoleModel" 76 "OrganConsoleModel" "thrown" "I" ∈ TB := tb_of 741 (by rfl) (by rfl)
set_option maxRecDepth 100000 in
theorem tw_742 : Cond.fieldLink "OrganConsoleModel" 79 "OrganConsoleModel" "stops" "I" ∈ TB := tb_of 742 (by rfl) (by rfl)
set_option maxRecDepth 100000 in
theorem tw_743 : Cond.fieldLink "OrganConsoleModel" 7 "OrganConsoleModel" "divisions" "[I" ∈ TB := tb_of 743 (by rfl) (by rfl)
set_option maxRecDepth 100000 in
theorem tw_744 : Cond.fieldLink "OrganConsoleModel" 13 "OrganConsoleModel" "shifts" "[I" ∈ TB := tb_of 744 (by rfl) (by rfl)
set_option maxRecDepth 100000 in
theorem tw_745 : Cond.fieldLink "OrganConsoleModel" 16 "OrganConsoleModel" "lows" "[I" ∈ TB := tb_of 745 (by rfl) (by rfl)
set_option maxRecDepth 100000 in
theorem tw_746 : Cond.fieldLink "OrganConsoleModel" 19 "OrganConsoleModel" "highs" "[I" ∈ TB := tb_of 746 (by rfl) (by rfl)
set_option maxRecDepth 100000 in
theorem tw_747 : Cond.fieldLink "OrganConsoleModel" 22 "OrganConsoleModel" "knobs" "[Z" ∈ TB := tb_of 747 (by rfl) (by rfl)
set_option maxRecDepth 100000 in
theorem tw_748 : Cond.fieldLink "OrganConsoleModel" 26 "OrganConsoleModel" "pulls" "[I" ∈ TB := tb_of 748 (by rfl) (by rfl)
set_option maxRecDepth 100000 in
theorem tw_749 : Cond.fieldLink "OrganConsoleModel" 29 "OrganConsoleModel" "targets" "[Z" ∈ TB := tb_of 749 (by rfl) (by rfl)
set_option maxRecDepth 100000 in
theorem tw_750 : Cond.fieldLink "OrganConsoleModel" 32 "OrganConsoleModel" "coils" "[I" ∈ TB := tb_of 750 (by rfl) (by rfl)
set_option maxRecDepth 100000 in
theorem tw_751 : Cond.fieldLink "OrganConsoleModel" 90 "OrganConsoleModel" "couplers" "I" ∈ TB := tb_of 751 (by rfl) (by rfl)
set_option maxRecDepth 100000 in
theorem tw_752 : Cond.fieldLink "OrganConsoleModel" 35 "OrganConsoleModel" "froms" "[I" ∈ TB := tb_of 752 (by rfl) (by rfl)
set_option maxRecDepth 100000 in
theorem tw_753 : Cond.fieldLink "OrganConsoleModel" 38 "OrganConsoleModel" "tos" "[I" ∈ TB := tb_of 753 (by rfl) (by rfl)
set_option maxRecDepth 100000 in
theorem tw_754 : Cond.fieldLink "OrganConsoleModel" 41 "OrganConsoleModel" "couplerShifts" "[I" ∈ TB := tb_of 754 (by rfl) (by rfl)
set_option maxRecDepth 100000 in
theorem tw_755 : Cond.fieldLink "OrganConsoleModel" 44 "OrganConsoleModel" "tabs" "[Z" ∈ TB := tb_of 755 (by rfl) (by rfl)
set_option maxRecDepth 100000 in
theorem tw_756 : Cond.fieldLink "OrganConsoleModel" 47 "OrganConsoleModel" "down" "[Z" ∈ TB := tb_of 756 (by rfl) (by rfl)
set_option maxRecDepth 100000 in
theorem tw_757 : Cond.fieldLink "OrganConsoleModel" 97 "OrganConsoleModel" "fullOrgan" "Z" ∈ TB := tb_of 757 (by rfl) (by rfl)
set_option maxRecDepth 100000 in
theorem tw_758 : Cond.fieldLink "OrganConsoleModel" 121 "OrganConsoleModel" "locked" "Z" ∈ TB := tb_of 758 (by rfl) (by rfl)
set_option maxRecDepth 100000 in
theorem tw_759 : Cond.fieldLink "OrganConsoleModel" 104 "OrganConsoleModel" "levelNow" "I" ∈ TB := tb_of 759 (by rfl) (by rfl)
set_option maxRecDepth 100000 in
theorem tw_760 : Cond.fieldLink "OrganConsoleModel" 127 "OrganConsoleModel" "pedalNow" "I" ∈ TB := tb_of 760 (by rfl) (by rfl)
set_option maxRecDepth 100000 in
theorem tw_761 : Cond.fieldLink "OrganConsoleModel" 50 "OrganConsoleModel" "cursor" "I" ∈ TB := tb_of 761 (by rfl) (by rfl)
set_option maxRecDepth 100000 in
theorem tw_762 : Cond.fieldLink "OrganConsoleModel" 54 "OrganConsoleModel" "memory" "[Z" ∈ TB := tb_of 762 (by rfl) (by rfl)
set_option maxRecDepth 100000 in
theorem tw_763 : Cond.fieldLink "OrganConsoleModel" 101 "OrganConsoleModel" "frames" "I" ∈ TB := tb_of 763 (by rfl) (by rfl)
set_option maxRecDepth 100000 in
theorem tw_764 : Cond.fieldLink "OrganConsoleModel" 58 "OrganConsoleModel" "copied" "[Z" ∈ TB := tb_of 764 (by rfl) (by rfl)
set_option maxRecDepth 100000 in
theorem tw_765 : Cond.fieldLink "OrganConsoleModel" 61 "OrganConsoleModel" "copiedFrames" "[I" ∈ TB := tb_of 765 (by rfl) (by rfl)
set_option maxRecDepth 100000 in
theorem tw_766 : Cond.fieldLink "OrganConsoleModel" 64 "OrganConsoleModel" "versions" "[I" ∈ TB := tb_of 766 (by rfl) (by rfl)
set_option maxRecDepth 100000 in
theorem tw_767 : Cond.fieldLink "OrganConsoleModel" 67 "OrganConsoleModel" "spoilt" "[Z" ∈ TB := tb_of 767 (by rfl) (by rfl)
set_option maxRecDepth 100000 in
theorem tw_768 : Cond.fieldLink "OrganConsoleModel" 70 "OrganConsoleModel" "inForce" "I" ∈ TB := tb_of 768 (by rfl) (by rfl)
set_option maxRecDepth 100000 in
theorem tw_769 : Cond.fieldLink "OrganConsoleModel" 73 "OrganConsoleModel" "lines" "[I" ∈ TB := tb_of 769 (by rfl) (by rfl)
set_option maxRecDepth 100000 in
theorem tw_770 : Cond.lays "OrganConsoleModel" "OrganConsoleModel" "thrown" "I" ∈ TB := tb_of 770 (by rfl) (by rfl)
set_option maxRecDepth 100000 in
theorem tw_772 : Cond.lays "OrganConsoleModel" "OrganConsoleModel" "stops" "I" ∈ TB := tb_of 772 (by rfl) (by rfl)
set_option maxRecDepth 100000 in
theorem tw_774 : Cond.laysFinal "OrganConsoleModel" "OrganConsoleModel" "divisions" "[I" ∈ TB := tb_of 774 (by rfl) (by rfl)
set_option maxRecDepth 100000 in
theorem tw_776 : Cond.laysFinal "OrganConsoleModel" "OrganConsoleModel" "shifts" "[I" ∈ TB := tb_of 776 (by rfl) (by rfl)
set_option maxRecDepth 100000 in
theorem tw_778 : Cond.laysFinal "OrganConsoleModel" "OrganConsoleModel" "lows" "[I" ∈ TB := tb_of 778 (by rfl) (by rfl)
set_option maxRecDepth 100000 in
theorem tw_780 : Cond.laysFinal "OrganConsoleModel" "OrganConsoleModel" "highs" "[I" ∈ TB := tb_of 780 (by rfl) (by rfl)
set_option maxRecDepth 100000 in
theorem tw_782 : Cond.laysFinal "OrganConsoleModel" "OrganConsoleModel" "knobs" "[Z" ∈ TB := tb_of 782 (by rfl) (by rfl)
set_option maxRecDepth 100000 in
theorem tw_784 : Cond.laysFinal "OrganConsoleModel" "OrganConsoleModel" "pulls" "[I" ∈ TB := tb_of 784 (by rfl) (by rfl)
set_option maxRecDepth 100000 in
theorem tw_786 : Cond.laysFinal "OrganConsoleModel" "OrganConsoleModel" "targets" "[Z" ∈ TB := tb_of 786 (by rfl) (by rfl)
set_option maxRecDepth 100000 in
theorem tw_788 : Cond.laysFinal "OrganConsoleModel" "OrganConsoleModel" "coils" "[I" ∈ TB := tb_of 788 (by rfl) (by rfl)
set_option maxRecDepth 100000 in
theorem tw_790 : Cond.lays "OrganConsoleModel" "OrganConsoleModel" "couplers" "I" ∈ TB := tb_of 790 (by rfl) (by rfl)
set_option maxRecDepth 100000 in
theorem tw_792 : Cond.laysFinal "OrganConsoleModel" "OrganConsoleModel" "froms" "[I" ∈ TB := tb_of 792 (by rfl) (by rfl)
set_option maxRecDepth 100000 in
theorem tw_794 : Cond.laysFinal "OrganConsoleModel" "OrganConsoleModel" "tos" "[I" ∈ TB := tb_of 794 (by rfl) (by rfl)
set_option maxRecDepth 100000 in
theorem tw_796 : Cond.laysFinal "OrganConsoleModel" "OrganConsoleModel" "couplerShifts" "[I" ∈ TB := tb_of 796 (by rfl) (by rfl)
set_option maxRecDepth 100000 in
theorem tw_798 : Cond.laysFinal "OrganConsoleModel" "OrganConsoleModel" "tabs" "[Z" ∈ TB := tb_of 798 (by rfl) (by rfl)
set_option maxRecDepth 100000 in
theorem tw_800 : Cond.laysFinal "OrganConsoleModel" "OrganConsoleModel" "down" "[Z" ∈ TB := tb_of 800 (by rfl) (by rfl)
set_option maxRecDepth 100000 in
theorem tw_802 : Cond.lays "OrganConsoleModel" "OrganConsoleModel" "fullOrgan" "Z" ∈ TB := tb_of 802 (by rfl) (by rfl)
set_option maxRecDepth 100000 in
theorem tw_804 : Cond.lays "OrganConsoleModel" "OrganConsoleModel" "locked" "Z" ∈ TB := tb_of 804 (by rfl) (by rfl)
set_option maxRecDepth 100000 in
theorem tw_806 : Cond.lays "OrganConsoleModel" "OrganConsoleModel" "levelNow" "I" ∈ TB := tb_of 806 (by rfl) (by rfl)
set_option maxRecDepth 100000 in
theorem tw_808 : Cond.lays "OrganConsoleModel" "OrganConsoleModel" "pedalNow" "I" ∈ TB := tb_of 808 (by rfl) (by rfl)
set_option maxRecDepth 100000 in
theorem tw_810 : Cond.lays "OrganConsoleModel" "OrganConsoleModel" "cursor" "I" ∈ TB := tb_of 810 (by rfl) (by rfl)
set_option maxRecDepth 100000 in
theorem tw_812 : Cond.laysFinal "OrganConsoleModel" "OrganConsoleModel" "memory" "[Z" ∈ TB := tb_of 812 (by rfl) (by rfl)
set_option maxRecDepth 100000 in
theorem tw_814 : Cond.lays "OrganConsoleModel" "OrganConsoleModel" "frames" "I" ∈ TB := tb_of 814 (by rfl) (by rfl)
set_option maxRecDepth 100000 in
theorem tw_816 : Cond.laysFinal "OrganConsoleModel" "OrganConsoleModel" "copied" "[Z" ∈ TB := tb_of 816 (by rfl) (by rfl)
set_option maxRecDepth 100000 in
theorem tw_818 : Cond.laysFinal "OrganConsoleModel" "OrganConsoleModel" "copiedFrames" "[I" ∈ TB := tb_of 818 (by rfl) (by rfl)
set_option maxRecDepth 100000 in
theorem tw_820 : Cond.laysFinal "OrganConsoleModel" "OrganConsoleModel" "versions" "[I" ∈ TB := tb_of 820 (by rfl) (by rfl)
set_option maxRecDepth 100000 in
theorem tw_822 : Cond.laysFinal "OrganConsoleModel" "OrganConsoleModel" "spoilt" "[Z" ∈ TB := tb_of 822 (by rfl) (by rfl)
set_option maxRecDepth 100000 in
theorem tw_824 : Cond.lays "OrganConsoleModel" "OrganConsoleModel" "inForce" "I" ∈ TB := tb_of 824 (by rfl) (by rfl)
set_option maxRecDepth 100000 in
theorem tw_826 : Cond.laysFinal "OrganConsoleModel" "OrganConsoleModel" "lines" "[I" ∈ TB := tb_of 826 (by rfl) (by rfl)
set_option maxRecDepth 100000 in
theorem tw_829 : Cond.methodLink "OrganConsoleLaw" 96 ⟨"OrganConsoleModel", "thrown", "()I"⟩ ∈ TB := tb_of 829 (by rfl) (by rfl)
set_option maxRecDepth 100000 in
theorem tw_830 : Cond.instanceMethod ⟨"OrganConsoleModel", "thrown", "()I"⟩ ∈ TB := tb_of 830 (by rfl) (by rfl)
set_option maxRecDepth 100000 in
theorem tw_831 : Cond.selects "OrganConsoleModel" ⟨"OrganConsoleModel", "thrown", "()I"⟩ ⟨"OrganConsoleModel", "thrown", "()I"⟩ ∈ TB := tb_of 831 (by rfl) (by rfl)
set_option maxRecDepth 100000 in
theorem tw_832 : Cond.code ⟨"OrganConsoleModel", "thrown", "()I"⟩ prog_8_method_2_code 1 (some FieldType.int) ∈ TB := tb_of 832 (by rfl) (by rfl)
set_option maxRecDepth 100000 in
theorem tw_833 : Cond.methodLink "OrganConsoleLaw" 95 ⟨"OrganConsoleModel", "stop", "(IIII)I"⟩ ∈ TB := tb_of 833 (by rfl) (by rfl)
set_option maxRecDepth 100000 in
theorem tw_834 : Cond.instanceMethod ⟨"OrganConsoleModel", "stop", "(IIII)I"⟩ ∈ TB := tb_of 834 (by rfl) (by rfl)
set_option maxRecDepth 100000 in
theorem tw_835 : Cond.selects "OrganConsoleModel" ⟨"OrganConsoleModel", "stop", "(IIII)I"⟩ ⟨"OrganConsoleModel", "stop", "(IIII)I"⟩ ∈ TB := tb_of 835 (by rfl) (by rfl)
set_option maxRecDepth 100000 in
theorem tw_836 : Cond.code ⟨"OrganConsoleModel", "stop", "(IIII)I"⟩ prog_8_method_6_code 5 (some FieldType.int) ∈ TB := tb_of 836 (by rfl) (by rfl)
set_option maxRecDepth 100000 in
theorem tw_837 : Cond.methodLink "OrganConsoleModel" 82 ⟨"OrganConsoleModel", "within", "(III)Z"⟩ ∈ TB := tb_of 837 (by rfl) (by rfl)
set_option maxRecDepth 100000 in
theorem tw_838 : Cond.static ⟨"OrganConsoleModel", "within", "(III)Z"⟩ ∈ TB := tb_of 838 (by rfl) (by rfl)
set_option maxRecDepth 100000 in
theorem tw_839 : Cond.code ⟨"OrganConsoleModel", "within", "(III)Z"⟩ prog_8_method_4_code 3 (some FieldType.boolean) ∈ TB := tb_of 839 (by rfl) (by rfl)
set_option maxRecDepth 100000 in
theorem tw_840 : Cond.methodLink "OrganConsoleModel" 86 ⟨"OrganConsoleModel", "goes", "(ZZZ)Z"⟩ ∈ TB := tb_of 840 (by rfl) (by rfl)
set_option maxRecDepth 100000 in
theorem tw_842 : Cond.instanceMethod ⟨"OrganConsoleModel", "goes", "(ZZZ)Z"⟩ ∈ TB := tb_of 842 (by rfl) (by rfl)
set_option maxRecDepth 100000 in
theorem tw_843 : Cond.code ⟨"OrganConsoleModel", "goes", "(ZZZ)Z"⟩ prog_8_method_3_code 4 (some FieldType.boolean) ∈ TB := tb_of 843 (by rfl) (by rfl)
set_option maxRecDepth 100000 in
theorem tw_844 : Cond.methodLink "OrganConsoleLaw" 102 ⟨"OrganConsoleModel", "coupler", "(III)I"⟩ ∈ TB := tb_of 844 (by rfl) (by rfl)
set_option maxRecDepth 100000 in
theorem tw_845 : Cond.instanceMethod ⟨"OrganConsoleModel", "coupler", "(III)I"⟩ ∈ TB := tb_of 845 (by rfl) (by rfl)
set_option maxRecDepth 100000 in
theorem tw_846 : Cond.selects "OrganConsoleModel" ⟨"OrganConsoleModel", "coupler", "(III)I"⟩ ⟨"OrganConsoleModel", "coupler", "(III)I"⟩ ∈ TB := tb_of 846 (by rfl) (by rfl)
set_option maxRecDepth 100000 in
theorem tw_847 : Cond.code ⟨"OrganConsoleModel", "coupler", "(III)I"⟩ prog_8_method_7_code 4 (some FieldType.int) ∈ TB := tb_of 847 (by rfl) (by rfl)
set_option maxRecDepth 100000 in
theorem tw_848 : Cond.methodLink "OrganConsoleLaw" 106 ⟨"OrganConsoleModel", "key", "(IIZ)Z"⟩ ∈ TB := tb_of 848 (by rfl) (by rfl)
set_option maxRecDepth 100000 in
theorem tw_849 : Cond.instanceMethod ⟨"OrganConsoleModel", "key", "(IIZ)Z"⟩ ∈ TB := tb_of 849 (by rfl) (by rfl)
set_option maxRecDepth 100000 in
theorem tw_850 : Cond.selects "OrganConsoleModel" ⟨"OrganConsoleModel", "key", "(IIZ)Z"⟩ ⟨"OrganConsoleModel", "key", "(IIZ)Z"⟩ ∈ TB := tb_of 850 (by rfl) (by rfl)
set_option maxRecDepth 100000 in
theorem tw_851 : Cond.code ⟨"OrganConsoleModel", "key", "(IIZ)Z"⟩ prog_8_method_8_code 5 (some FieldType.boolean) ∈ TB := tb_of 851 (by rfl) (by rfl)
set_option maxRecDepth 100000 in
theorem tw_852 : Cond.methodLink "OrganConsoleLaw" 110 ⟨"OrganConsoleModel", "knob", "(IZ)Z"⟩ ∈ TB := tb_of 852 (by rfl) (by rfl)
set_option maxRecDepth 100000 in
theorem tw_853 : Cond.instanceMethod ⟨"OrganConsoleModel", "knob", "(IZ)Z"⟩ ∈ TB := tb_of 853 (by rfl) (by rfl)
set_option maxRecDepth 100000 in
theorem tw_854 : Cond.selects "OrganConsoleModel" ⟨"OrganConsoleModel", "knob", "(IZ)Z"⟩ ⟨"OrganConsoleModel", "knob", "(IZ)Z"⟩ ∈ TB := tb_of 854 (by rfl) (by rfl)
set_option maxRecDepth 100000 in
theorem tw_855 : Cond.code ⟨"OrganConsoleModel", "knob", "(IZ)Z"⟩ prog_8_method_9_code 4 (some FieldType.boolean) ∈ TB := tb_of 855 (by rfl) (by rfl)
set_option maxRecDepth 100000 in
theorem tw_856 : Cond.methodLink "OrganConsoleModel" 93 ⟨"OrganConsoleModel", "isStop", "(I)Z"⟩ ∈ TB := tb_of 856 (by rfl) (by rfl)
set_option maxRecDepth 100000 in
theorem tw_858 : Cond.instanceMethod ⟨"OrganConsoleModel", "isStop", "(I)Z"⟩ ∈ TB := tb_of 858 (by rfl) (by rfl)
set_option maxRecDepth 100000 in
theorem tw_859 : Cond.code ⟨"OrganConsoleModel", "isStop", "(I)Z"⟩ prog_8_method_5_code 2 (some FieldType.boolean) ∈ TB := tb_of 859 (by rfl) (by rfl)
set_option maxRecDepth 100000 in
theorem tw_860 : Cond.methodLink "OrganConsoleLaw" 113 ⟨"OrganConsoleModel", "tab", "(IZ)Z"⟩ ∈ TB := tb_of 860 (by rfl) (by rfl)
set_option maxRecDepth 100000 in
theorem tw_861 : Cond.instanceMethod ⟨"OrganConsoleModel", "tab", "(IZ)Z"⟩ ∈ TB := tb_of 861 (by rfl) (by rfl)
set_option maxRecDepth 100000 in
theorem tw_862 : Cond.selects "OrganConsoleModel" ⟨"OrganConsoleModel", "tab", "(IZ)Z"⟩ ⟨"OrganConsoleModel", "tab", "(IZ)Z"⟩ ∈ TB := tb_of 862 (by rfl) (by rfl)
set_option maxRecDepth 100000 in
theorem tw_863 : Cond.code ⟨"OrganConsoleModel", "tab", "(IZ)Z"⟩ prog_8_method_10_code 4 (some FieldType.boolean) ∈ TB := tb_of 863 (by rfl) (by rfl)
set_option maxRecDepth 100000 in
theorem tw_864 : Cond.methodLink "OrganConsoleLaw" 118 ⟨"OrganConsoleModel", "full", "(Z)Z"⟩ ∈ TB := tb_of 864 (by rfl) (by rfl)
set_option maxRecDepth 100000 in
theorem tw_865 : Cond.instanceMethod ⟨"OrganConsoleModel", "full", "(Z)Z"⟩ ∈ TB := tb_of 865 (by rfl) (by rfl)
set_option maxRecDepth 100000 in
theorem tw_866 : Cond.selects "OrganConsoleModel" ⟨"OrganConsoleModel", "full", "(Z)Z"⟩ ⟨"OrganConsoleModel", "full", "(Z)Z"⟩ ∈ TB := tb_of 866 (by rfl) (by rfl)
set_option maxRecDepth 100000 in
theorem tw_867 : Cond.code ⟨"OrganConsoleModel", "full", "(Z)Z"⟩ prog_8_method_11_code 3 (some FieldType.boolean) ∈ TB := tb_of 867 (by rfl) (by rfl)
set_option maxRecDepth 100000 in
theorem tw_868 : Cond.methodLink "OrganConsoleLaw" 122 ⟨"OrganConsoleModel", "press", "(II)I"⟩ ∈ TB := tb_of 868 (by rfl) (by rfl)
set_option maxRecDepth 100000 in
theorem tw_869 : Cond.instanceMethod ⟨"OrganConsoleModel", "press", "(II)I"⟩ ∈ TB := tb_of 869 (by rfl) (by rfl)
set_option maxRecDepth 100000 in
theorem tw_870 : Cond.selects "OrganConsoleModel" ⟨"OrganConsoleModel", "press", "(II)I"⟩ ⟨"OrganConsoleModel", "press", "(II)I"⟩ ∈ TB := tb_of 870 (by rfl) (by rfl)
set_option maxRecDepth 100000 in
theorem tw_871 : Cond.code ⟨"OrganConsoleModel", "press", "(II)I"⟩ prog_8_method_16_code 3 (some FieldType.int) ∈ TB := tb_of 871 (by rfl) (by rfl)
set_option maxRecDepth 100000 in
theorem tw_872 : Cond.methodLink "OrganConsoleModel" 114 ⟨"OrganConsoleModel", "isSet", "(II)Z"⟩ ∈ TB := tb_of 872 (by rfl) (by rfl)
set_option maxRecDepth 100000 in
theorem tw_874 : Cond.instanceMethod ⟨"OrganConsoleModel", "isSet", "(II)Z"⟩ ∈ TB := tb_of 874 (by rfl) (by rfl)
set_option maxRecDepth 100000 in
theorem tw_875 : Cond.code ⟨"OrganConsoleModel", "isSet", "(II)Z"⟩ prog_8_method_12_code 3 (some FieldType.boolean) ∈ TB := tb_of 875 (by rfl) (by rfl)
set_option maxRecDepth 100000 in
theorem tw_876 : Cond.methodLink "OrganConsoleModel" 118 ⟨"OrganConsoleModel", "recall", "(II)I"⟩ ∈ TB := tb_of 876 (by rfl) (by rfl)
set_option maxRecDepth 100000 in
theorem tw_878 : Cond.instanceMethod ⟨"OrganConsoleModel", "recall", "(II)I"⟩ ∈ TB := tb_of 878 (by rfl) (by rfl)
set_option maxRecDepth 100000 in
theorem tw_879 : Cond.code ⟨"OrganConsoleModel", "recall", "(II)I"⟩ prog_8_method_15_code 7 (some FieldType.int) ∈ TB := tb_of 879 (by rfl) (by rfl)
set_option maxRecDepth 100000 in
theorem tw_880 : Cond.methodLink "OrganConsoleModel" 107 ⟨"OrganConsoleModel", "place", "(II)I"⟩ ∈ TB := tb_of 880 (by rfl) (by rfl)
set_option maxRecDepth 100000 in
theorem tw_882 : Cond.instanceMethod ⟨"OrganConsoleModel", "place", "(II)I"⟩ ∈ TB := tb_of 882 (by rfl) (by rfl)
set_option maxRecDepth 100000 in
theorem tw_883 : Cond.code ⟨"OrganConsoleModel", "place", "(II)I"⟩ prog_8_method_13_code 3 (some FieldType.int) ∈ TB := tb_of 883 (by rfl) (by rfl)
set_option maxRecDepth 100000 in
theorem tw_884 : Cond.methodLink "OrganConsoleModel" 111 ⟨"OrganConsoleModel", "inScope", "(III)Z"⟩ ∈ TB := tb_of 884 (by rfl) (by rfl)
set_option maxRecDepth 100000 in
theorem tw_886 : Cond.instanceMethod ⟨"OrganConsoleModel", "inScope", "(III)Z"⟩ ∈ TB := tb_of 886 (by rfl) (by rfl)
set_option maxRecDepth 100000 in
theorem tw_887 : Cond.code ⟨"OrganConsoleModel", "inScope", "(III)Z"⟩ prog_8_method_14_code 4 (some FieldType.boolean) ∈ TB := tb_of 887 (by rfl) (by rfl)
set_option maxRecDepth 100000 in
theorem tw_888 : Cond.methodLink "OrganConsoleLaw" 125 ⟨"OrganConsoleModel", "set", "(II)I"⟩ ∈ TB := tb_of 888 (by rfl) (by rfl)
set_option maxRecDepth 100000 in
theorem tw_889 : Cond.instanceMethod ⟨"OrganConsoleModel", "set", "(II)I"⟩ ∈ TB := tb_of 889 (by rfl) (by rfl)
set_option maxRecDepth 100000 in
theorem tw_890 : Cond.selects "OrganConsoleModel" ⟨"OrganConsoleModel", "set", "(II)I"⟩ ⟨"OrganConsoleModel", "set", "(II)I"⟩ ∈ TB := tb_of 890 (by rfl) (by rfl)
set_option maxRecDepth 100000 in
theorem tw_891 : Cond.code ⟨"OrganConsoleModel", "set", "(II)I"⟩ prog_8_method_18_code 3 (some FieldType.int) ∈ TB := tb_of 891 (by rfl) (by rfl)
set_option maxRecDepth 100000 in
theorem tw_892 : Cond.methodLink "OrganConsoleModel" 124 ⟨"OrganConsoleModel", "store", "(II)I"⟩ ∈ TB := tb_of 892 (by rfl) (by rfl)
set_option maxRecDepth 100000 in
theorem tw_894 : Cond.instanceMethod ⟨"OrganConsoleModel", "store", "(II)I"⟩ ∈ TB := tb_of 894 (by rfl) (by rfl)
set_option maxRecDepth 100000 in
theorem tw_895 : Cond.code ⟨"OrganConsoleModel", "store", "(II)I"⟩ prog_8_method_17_code 6 (some FieldType.int) ∈ TB := tb_of 895 (by rfl) (by rfl)
set_option maxRecDepth 100000 in
theorem tw_896 : Cond.methodLink "OrganConsoleLaw" 129 ⟨"OrganConsoleModel", "level", "(I)I"⟩ ∈ TB := tb_of 896 (by rfl) (by rfl)
set_option maxRecDepth 100000 in
theorem tw_897 : Cond.instanceMethod ⟨"OrganConsoleModel", "level", "(I)I"⟩ ∈ TB := tb_of 897 (by rfl) (by rfl)
set_option maxRecDepth 100000 in
theorem tw_898 : Cond.selects "OrganConsoleModel" ⟨"OrganConsoleModel", "level", "(I)I"⟩ ⟨"OrganConsoleModel", "level", "(I)I"⟩ ∈ TB := tb_of 898 (by rfl) (by rfl)
set_option maxRecDepth 100000 in
theorem tw_899 : Cond.code ⟨"OrganConsoleModel", "level", "(I)I"⟩ prog_8_method_19_code 3 (some FieldType.int) ∈ TB := tb_of 899 (by rfl) (by rfl)
set_option maxRecDepth 100000 in
theorem tw_900 : Cond.methodLink "OrganConsoleLaw" 133 ⟨"OrganConsoleModel", "lock", "(Z)Z"⟩ ∈ TB := tb_of 900 (by rfl) (by rfl)
set_option maxRecDepth 100000 in
theorem tw_901 : Cond.instanceMethod ⟨"OrganConsoleModel", "lock", "(Z)Z"⟩ ∈ TB := tb_of 901 (by rfl) (by rfl)
set_option maxRecDepth 100000 in
theorem tw_902 : Cond.selects "OrganConsoleModel" ⟨"OrganConsoleModel", "lock", "(Z)Z"⟩ ⟨"OrganConsoleModel", "lock", "(Z)Z"⟩ ∈ TB := tb_of 902 (by rfl) (by rfl)
set_option maxRecDepth 100000 in
theorem tw_903 : Cond.code ⟨"OrganConsoleModel", "lock", "(Z)Z"⟩ prog_8_method_20_code 3 (some FieldType.boolean) ∈ TB := tb_of 903 (by rfl) (by rfl)
set_option maxRecDepth 100000 in
theorem tw_904 : Cond.methodLink "OrganConsoleLaw" 136 ⟨"OrganConsoleModel", "move", "(I)I"⟩ ∈ TB := tb_of 904 (by rfl) (by rfl)
set_option maxRecDepth 100000 in
theorem tw_905 : Cond.instanceMethod ⟨"OrganConsoleModel", "move", "(I)I"⟩ ∈ TB := tb_of 905 (by rfl) (by rfl)
set_option maxRecDepth 100000 in
theorem tw_906 : Cond.selects "OrganConsoleModel" ⟨"OrganConsoleModel", "move", "(I)I"⟩ ⟨"OrganConsoleModel", "move", "(I)I"⟩ ∈ TB := tb_of 906 (by rfl) (by rfl)
set_option maxRecDepth 100000 in
theorem tw_907 : Cond.code ⟨"OrganConsoleModel", "move", "(I)I"⟩ prog_8_method_21_code 4 (some FieldType.int) ∈ TB := tb_of 907 (by rfl) (by rfl)
set_option maxRecDepth 100000 in
theorem tw_908 : Cond.methodLink "OrganConsoleLaw" 140 ⟨"OrganConsoleModel", "insert", "()I"⟩ ∈ TB := tb_of 908 (by rfl) (by rfl)
set_option maxRecDepth 100000 in
theorem tw_909 : Cond.instanceMethod ⟨"OrganConsoleModel", "insert", "()I"⟩ ∈ TB := tb_of 909 (by rfl) (by rfl)
set_option maxRecDepth 100000 in
theorem tw_910 : Cond.selects "OrganConsoleModel" ⟨"OrganConsoleModel", "insert", "()I"⟩ ⟨"OrganConsoleModel", "insert", "()I"⟩ ∈ TB := tb_of 910 (by rfl) (by rfl)
set_option maxRecDepth 100000 in
theorem tw_911 : Cond.code ⟨"OrganConsoleModel", "insert", "()I"⟩ prog_8_method_22_code 3 (some FieldType.int) ∈ TB := tb_of 911 (by rfl) (by rfl)
set_option maxRecDepth 100000 in
theorem tw_912 : Cond.methodLink "OrganConsoleLaw" 143 ⟨"OrganConsoleModel", "delete", "()I"⟩ ∈ TB := tb_of 912 (by rfl) (by rfl)
set_option maxRecDepth 100000 in
theorem tw_913 : Cond.instanceMethod ⟨"OrganConsoleModel", "delete", "()I"⟩ ∈ TB := tb_of 913 (by rfl) (by rfl)
set_option maxRecDepth 100000 in
theorem tw_914 : Cond.selects "OrganConsoleModel" ⟨"OrganConsoleModel", "delete", "()I"⟩ ⟨"OrganConsoleModel", "delete", "()I"⟩ ∈ TB := tb_of 914 (by rfl) (by rfl)
set_option maxRecDepth 100000 in
theorem tw_915 : Cond.code ⟨"OrganConsoleModel", "delete", "()I"⟩ prog_8_method_23_code 3 (some FieldType.int) ∈ TB := tb_of 915 (by rfl) (by rfl)
set_option maxRecDepth 100000 in
theorem tw_916 : Cond.methodLink "OrganConsoleLaw" 146 ⟨"OrganConsoleModel", "pedal", "(I)I"⟩ ∈ TB := tb_of 916 (by rfl) (by rfl)
set_option maxRecDepth 100000 in
theorem tw_917 : Cond.instanceMethod ⟨"OrganConsoleModel", "pedal", "(I)I"⟩ ∈ TB := tb_of 917 (by rfl) (by rfl)
set_option maxRecDepth 100000 in
theorem tw_918 : Cond.selects "OrganConsoleModel" ⟨"OrganConsoleModel", "pedal", "(I)I"⟩ ⟨"OrganConsoleModel", "pedal", "(I)I"⟩ ∈ TB := tb_of 918 (by rfl) (by rfl)
set_option maxRecDepth 100000 in
theorem tw_919 : Cond.code ⟨"OrganConsoleModel", "pedal", "(I)I"⟩ prog_8_method_24_code 3 (some FieldType.int) ∈ TB := tb_of 919 (by rfl) (by rfl)
set_option maxRecDepth 100000 in
theorem tw_920 : Cond.methodLink "OrganConsoleLaw" 149 ⟨"OrganConsoleModel", "assign", "(IIZ)Z"⟩ ∈ TB := tb_of 920 (by rfl) (by rfl)
set_option maxRecDepth 100000 in
theorem tw_921 : Cond.instanceMethod ⟨"OrganConsoleModel", "assign", "(IIZ)Z"⟩ ∈ TB := tb_of 921 (by rfl) (by rfl)
set_option maxRecDepth 100000 in
theorem tw_922 : Cond.selects "OrganConsoleModel" ⟨"OrganConsoleModel", "assign", "(IIZ)Z"⟩ ⟨"OrganConsoleModel", "assign", "(IIZ)Z"⟩ ∈ TB := tb_of 922 (by rfl) (by rfl)
set_option maxRecDepth 100000 in
theorem tw_923 : Cond.code ⟨"OrganConsoleModel", "assign", "(IIZ)Z"⟩ prog_8_method_25_code 6 (some FieldType.boolean) ∈ TB := tb_of 923 (by rfl) (by rfl)
set_option maxRecDepth 100000 in
theorem tw_924 : Cond.methodLink "OrganConsoleLaw" 152 ⟨"OrganConsoleModel", "tick", "(I)I"⟩ ∈ TB := tb_of 924 (by rfl) (by rfl)
set_option maxRecDepth 100000 in
theorem tw_925 : Cond.instanceMethod ⟨"OrganConsoleModel", "tick", "(I)I"⟩ ∈ TB := tb_of 925 (by rfl) (by rfl)
set_option maxRecDepth 100000 in
theorem tw_926 : Cond.selects "OrganConsoleModel" ⟨"OrganConsoleModel", "tick", "(I)I"⟩ ⟨"OrganConsoleModel", "tick", "(I)I"⟩ ∈ TB := tb_of 926 (by rfl) (by rfl)
set_option maxRecDepth 100000 in
theorem tw_927 : Cond.code ⟨"OrganConsoleModel", "tick", "(I)I"⟩ prog_8_method_26_code 7 (some FieldType.int) ∈ TB := tb_of 927 (by rfl) (by rfl)
set_option maxRecDepth 100000 in
theorem tw_928 : Cond.methodLink "OrganConsoleLaw" 155 ⟨"OrganConsoleModel", "about", "(II)I"⟩ ∈ TB := tb_of 928 (by rfl) (by rfl)
set_option maxRecDepth 100000 in
theorem tw_929 : Cond.instanceMethod ⟨"OrganConsoleModel", "about", "(II)I"⟩ ∈ TB := tb_of 929 (by rfl) (by rfl)
set_option maxRecDepth 100000 in
theorem tw_930 : Cond.selects "OrganConsoleModel" ⟨"OrganConsoleModel", "about", "(II)I"⟩ ⟨"OrganConsoleModel", "about", "(II)I"⟩ ∈ TB := tb_of 930 (by rfl) (by rfl)
set_option maxRecDepth 100000 in
theorem tw_931 : Cond.code ⟨"OrganConsoleModel", "about", "(II)I"⟩ prog_8_method_32_code 3 (some FieldType.int) ∈ TB := tb_of 931 (by rfl) (by rfl)
set_option maxRecDepth 100000 in
theorem tw_932 : Cond.methodLink "OrganConsoleModel" 133 ⟨"OrganConsoleModel", "speaks", "(I)Z"⟩ ∈ TB := tb_of 932 (by rfl) (by rfl)
set_option maxRecDepth 100000 in
theorem tw_934 : Cond.instanceMethod ⟨"OrganConsoleModel", "speaks", "(I)Z"⟩ ∈ TB := tb_of 934 (by rfl) (by rfl)
set_option maxRecDepth 100000 in
theorem tw_935 : Cond.code ⟨"OrganConsoleModel", "speaks", "(I)Z"⟩ prog_8_method_27_code 4 (some FieldType.boolean) ∈ TB := tb_of 935 (by rfl) (by rfl)
set_option maxRecDepth 100000 in
theorem tw_936 : Cond.methodLink "OrganConsoleModel" 142 ⟨"OrganConsoleModel", "openPipes", "(I)I"⟩ ∈ TB := tb_of 936 (by rfl) (by rfl)
set_option maxRecDepth 100000 in
theorem tw_938 : Cond.instanceMethod ⟨"OrganConsoleModel", "openPipes", "(I)I"⟩ ∈ TB := tb_of 938 (by rfl) (by rfl)
set_option maxRecDepth 100000 in
theorem tw_939 : Cond.code ⟨"OrganConsoleModel", "openPipes", "(I)I"⟩ prog_8_method_31_code 4 (some FieldType.int) ∈ TB := tb_of 939 (by rfl) (by rfl)
set_option maxRecDepth 100000 in
theorem tw_940 : Cond.methodLink "OrganConsoleModel" 139 ⟨"OrganConsoleModel", "isOpen", "(II)Z"⟩ ∈ TB := tb_of 940 (by rfl) (by rfl)
set_option maxRecDepth 100000 in
theorem tw_942 : Cond.instanceMethod ⟨"OrganConsoleModel", "isOpen", "(II)Z"⟩ ∈ TB := tb_of 942 (by rfl) (by rfl)
set_option maxRecDepth 100000 in
theorem tw_943 : Cond.code ⟨"OrganConsoleModel", "isOpen", "(II)Z"⟩ prog_8_method_30_code 3 (some FieldType.boolean) ∈ TB := tb_of 943 (by rfl) (by rfl)
set_option maxRecDepth 100000 in
theorem tw_944 : Cond.methodLink "OrganConsoleModel" 136 ⟨"OrganConsoleModel", "reached", "(II)Z"⟩ ∈ TB := tb_of 944 (by rfl) (by rfl)
set_option maxRecDepth 100000 in
theorem tw_946 : Cond.instanceMethod ⟨"OrganConsoleModel", "reached", "(II)Z"⟩ ∈ TB := tb_of 946 (by rfl) (by rfl)
set_option maxRecDepth 100000 in
theorem tw_947 : Cond.code ⟨"OrganConsoleModel", "reached", "(II)Z"⟩ prog_8_method_29_code 5 (some FieldType.boolean) ∈ TB := tb_of 947 (by rfl) (by rfl)
set_option maxRecDepth 100000 in
theorem tw_948 : Cond.methodLink "OrganConsoleModel" 130 ⟨"OrganConsoleModel", "isDown", "(II)Z"⟩ ∈ TB := tb_of 948 (by rfl) (by rfl)
set_option maxRecDepth 100000 in
theorem tw_950 : Cond.instanceMethod ⟨"OrganConsoleModel", "isDown", "(II)Z"⟩ ∈ TB := tb_of 950 (by rfl) (by rfl)
set_option maxRecDepth 100000 in
theorem tw_951 : Cond.code ⟨"OrganConsoleModel", "isDown", "(II)Z"⟩ prog_8_method_28_code 3 (some FieldType.boolean) ∈ TB := tb_of 951 (by rfl) (by rfl)
set_option maxRecDepth 100000 in
theorem tw_952 : Cond.methodLink "OrganConsoleLaw" 158 ⟨"OrganConsoleModel", "pipe", "(II)Z"⟩ ∈ TB := tb_of 952 (by rfl) (by rfl)
set_option maxRecDepth 100000 in
theorem tw_953 : Cond.instanceMethod ⟨"OrganConsoleModel", "pipe", "(II)Z"⟩ ∈ TB := tb_of 953 (by rfl) (by rfl)
set_option maxRecDepth 100000 in
theorem tw_954 : Cond.selects "OrganConsoleModel" ⟨"OrganConsoleModel", "pipe", "(II)Z"⟩ ⟨"OrganConsoleModel", "pipe", "(II)Z"⟩ ∈ TB := tb_of 954 (by rfl) (by rfl)
set_option maxRecDepth 100000 in
theorem tw_955 : Cond.code ⟨"OrganConsoleModel", "pipe", "(II)Z"⟩ prog_8_method_33_code 3 (some FieldType.boolean) ∈ TB := tb_of 955 (by rfl) (by rfl)
set_option maxRecDepth 100000 in
theorem tw_956 : Cond.methodLink "OrganConsoleLaw" 161 ⟨"OrganConsoleModel", "lamp", "(II)Z"⟩ ∈ TB := tb_of 956 (by rfl) (by rfl)
set_option maxRecDepth 100000 in
theorem tw_957 : Cond.instanceMethod ⟨"OrganConsoleModel", "lamp", "(II)Z"⟩ ∈ TB := tb_of 957 (by rfl) (by rfl)
set_option maxRecDepth 100000 in
theorem tw_958 : Cond.selects "OrganConsoleModel" ⟨"OrganConsoleModel", "lamp", "(II)Z"⟩ ⟨"OrganConsoleModel", "lamp", "(II)Z"⟩ ∈ TB := tb_of 958 (by rfl) (by rfl)
set_option maxRecDepth 100000 in
theorem tw_959 : Cond.code ⟨"OrganConsoleModel", "lamp", "(II)Z"⟩ prog_8_method_34_code 5 (some FieldType.boolean) ∈ TB := tb_of 959 (by rfl) (by rfl)
set_option maxRecDepth 100000 in
theorem tw_960 : Cond.methodLink "OrganConsoleLaw" 164 ⟨"OrganConsoleModel", "commit", "(I)I"⟩ ∈ TB := tb_of 960 (by rfl) (by rfl)
set_option maxRecDepth 100000 in
theorem tw_961 : Cond.instanceMethod ⟨"OrganConsoleModel", "commit", "(I)I"⟩ ∈ TB := tb_of 961 (by rfl) (by rfl)
set_option maxRecDepth 100000 in
theorem tw_962 : Cond.selects "OrganConsoleModel" ⟨"OrganConsoleModel", "commit", "(I)I"⟩ ⟨"OrganConsoleModel", "commit", "(I)I"⟩ ∈ TB := tb_of 962 (by rfl) (by rfl)
set_option maxRecDepth 100000 in
theorem tw_963 : Cond.code ⟨"OrganConsoleModel", "commit", "(I)I"⟩ prog_8_method_38_code 5 (some FieldType.int) ∈ TB := tb_of 963 (by rfl) (by rfl)
set_option maxRecDepth 100000 in
theorem tw_964 : Cond.methodLink "OrganConsoleModel" 153 ⟨"OrganConsoleModel", "reboot", "()I"⟩ ∈ TB := tb_of 964 (by rfl) (by rfl)
set_option maxRecDepth 100000 in
theorem tw_966 : Cond.instanceMethod ⟨"OrganConsoleModel", "reboot", "()I"⟩ ∈ TB := tb_of 966 (by rfl) (by rfl)
set_option maxRecDepth 100000 in
theorem tw_967 : Cond.code ⟨"OrganConsoleModel", "reboot", "()I"⟩ prog_8_method_37_code 4 (some FieldType.int) ∈ TB := tb_of 967 (by rfl) (by rfl)
set_option maxRecDepth 100000 in
theorem tw_968 : Cond.methodLink "OrganConsoleModel" 146 ⟨"OrganConsoleModel", "whole", "(I)Z"⟩ ∈ TB := tb_of 968 (by rfl) (by rfl)
set_option maxRecDepth 100000 in
theorem tw_970 : Cond.instanceMethod ⟨"OrganConsoleModel", "whole", "(I)Z"⟩ ∈ TB := tb_of 970 (by rfl) (by rfl)
set_option maxRecDepth 100000 in
theorem tw_971 : Cond.code ⟨"OrganConsoleModel", "whole", "(I)Z"⟩ prog_8_method_35_code 4 (some FieldType.boolean) ∈ TB := tb_of 971 (by rfl) (by rfl)
set_option maxRecDepth 100000 in
theorem tw_972 : Cond.methodLink "OrganConsoleModel" 149 ⟨"OrganConsoleModel", "version", "()I"⟩ ∈ TB := tb_of 972 (by rfl) (by rfl)
set_option maxRecDepth 100000 in
theorem tw_974 : Cond.instanceMethod ⟨"OrganConsoleModel", "version", "()I"⟩ ∈ TB := tb_of 974 (by rfl) (by rfl)
set_option maxRecDepth 100000 in
theorem tw_975 : Cond.code ⟨"OrganConsoleModel", "version", "()I"⟩ prog_8_method_36_code 1 (some FieldType.int) ∈ TB := tb_of 975 (by rfl) (by rfl)
set_option maxRecDepth 100000 in
theorem tw_976 : Cond.methodLink "OrganConsoleLaw" 168 ⟨"OrganConsoleModel", "boot", "()I"⟩ ∈ TB := tb_of 976 (by rfl) (by rfl)
set_option maxRecDepth 100000 in
theorem tw_977 : Cond.instanceMethod ⟨"OrganConsoleModel", "boot", "()I"⟩ ∈ TB := tb_of 977 (by rfl) (by rfl)
set_option maxRecDepth 100000 in
theorem tw_978 : Cond.selects "OrganConsoleModel" ⟨"OrganConsoleModel", "boot", "()I"⟩ ⟨"OrganConsoleModel", "boot", "()I"⟩ ∈ TB := tb_of 978 (by rfl) (by rfl)
set_option maxRecDepth 100000 in
theorem tw_979 : Cond.code ⟨"OrganConsoleModel", "boot", "()I"⟩ prog_8_method_39_code 1 (some FieldType.int) ∈ TB := tb_of 979 (by rfl) (by rfl)
set_option maxRecDepth 100000 in
theorem tw_980 : Cond.methodLink "OrganConsoleLaw" 171 ⟨"OrganConsoleModel", "spoil", "(II)I"⟩ ∈ TB := tb_of 980 (by rfl) (by rfl)
set_option maxRecDepth 100000 in
theorem tw_981 : Cond.instanceMethod ⟨"OrganConsoleModel", "spoil", "(II)I"⟩ ∈ TB := tb_of 981 (by rfl) (by rfl)
set_option maxRecDepth 100000 in
theorem tw_982 : Cond.selects "OrganConsoleModel" ⟨"OrganConsoleModel", "spoil", "(II)I"⟩ ⟨"OrganConsoleModel", "spoil", "(II)I"⟩ ∈ TB := tb_of 982 (by rfl) (by rfl)
set_option maxRecDepth 100000 in
theorem tw_983 : Cond.code ⟨"OrganConsoleModel", "spoil", "(II)I"⟩ prog_8_method_40_code 4 (some FieldType.int) ∈ TB := tb_of 983 (by rfl) (by rfl)
set_option maxRecDepth 100000 in
theorem tw_984 : Cond.methodLink "OrganConsoleLaw" 174 ⟨"OrganConsoleModel", "fault", "(III)I"⟩ ∈ TB := tb_of 984 (by rfl) (by rfl)
set_option maxRecDepth 100000 in
theorem tw_985 : Cond.instanceMethod ⟨"OrganConsoleModel", "fault", "(III)I"⟩ ∈ TB := tb_of 985 (by rfl) (by rfl)
set_option maxRecDepth 100000 in
theorem tw_986 : Cond.selects "OrganConsoleModel" ⟨"OrganConsoleModel", "fault", "(III)I"⟩ ⟨"OrganConsoleModel", "fault", "(III)I"⟩ ∈ TB := tb_of 986 (by rfl) (by rfl)
set_option maxRecDepth 100000 in
theorem tw_987 : Cond.code ⟨"OrganConsoleModel", "fault", "(III)I"⟩ prog_8_method_41_code 6 (some FieldType.int) ∈ TB := tb_of 987 (by rfl) (by rfl)
set_option maxRecDepth 100000 in
theorem tw_988 : Cond.methodLink "OrganConsoleLaw" 178 ⟨"OrganConsoleModel", "test", "()I"⟩ ∈ TB := tb_of 988 (by rfl) (by rfl)
set_option maxRecDepth 100000 in
theorem tw_989 : Cond.instanceMethod ⟨"OrganConsoleModel", "test", "()I"⟩ ∈ TB := tb_of 989 (by rfl) (by rfl)
set_option maxRecDepth 100000 in
theorem tw_990 : Cond.selects "OrganConsoleModel" ⟨"OrganConsoleModel", "test", "()I"⟩ ⟨"OrganConsoleModel", "test", "()I"⟩ ∈ TB := tb_of 990 (by rfl) (by rfl)
set_option maxRecDepth 100000 in
theorem tw_991 : Cond.code ⟨"OrganConsoleModel", "test", "()I"⟩ prog_8_method_42_code 2 (some FieldType.int) ∈ TB := tb_of 991 (by rfl) (by rfl)
set_option maxRecDepth 100000 in
theorem tw_992 : Cond.methodLink "OrganConsoleLaw" 181 ⟨"OrganConsoleModel", "count", "(I)I"⟩ ∈ TB := tb_of 992 (by rfl) (by rfl)
set_option maxRecDepth 100000 in
theorem tw_993 : Cond.instanceMethod ⟨"OrganConsoleModel", "count", "(I)I"⟩ ∈ TB := tb_of 993 (by rfl) (by rfl)
set_option maxRecDepth 100000 in
theorem tw_994 : Cond.selects "OrganConsoleModel" ⟨"OrganConsoleModel", "count", "(I)I"⟩ ⟨"OrganConsoleModel", "count", "(I)I"⟩ ∈ TB := tb_of 994 (by rfl) (by rfl)
set_option maxRecDepth 100000 in
theorem tw_995 : Cond.code ⟨"OrganConsoleModel", "count", "(I)I"⟩ prog_8_method_44_code 2 (some FieldType.int) ∈ TB := tb_of 995 (by rfl) (by rfl)
set_option maxRecDepth 100000 in
theorem tw_996 : Cond.methodLink "OrganConsoleModel" 156 ⟨"OrganConsoleModel", "some", "(I)I"⟩ ∈ TB := tb_of 996 (by rfl) (by rfl)
set_option maxRecDepth 100000 in
theorem tw_998 : Cond.instanceMethod ⟨"OrganConsoleModel", "some", "(I)I"⟩ ∈ TB := tb_of 998 (by rfl) (by rfl)
set_option maxRecDepth 100000 in
theorem tw_999 : Cond.code ⟨"OrganConsoleModel", "some", "(I)I"⟩ prog_8_method_43_code 5 (some FieldType.int) ∈ TB := tb_of 999 (by rfl) (by rfl)
theorem tw_0 : Cond.selects "OrganConsole" ⟨"OrganConsole", "restart", "()V"⟩ ⟨"OrganConsole", "restart", "()V"⟩ ∈ TB := tb_of 0 (by rfl) (by rfl)
theorem tw_1 : Cond.selects "OrganConsole$Store" ⟨"OrganConsole$Store", "newestWhole", "()I"⟩ ⟨"OrganConsole$Store", "newestWhole", "()I"⟩ ∈ TB := tb_of 1 (by rfl) (by rfl)
theorem tw_3 : Cond.selects "OrganConsole" ⟨"OrganConsole", "checkStop", "(I)V"⟩ ⟨"OrganConsole", "checkStop", "(I)V"⟩ ∈ TB := tb_of 3 (by rfl) (by rfl)
theorem tw_4 : Cond.selects "OrganConsole" ⟨"OrganConsole", "checkPiston", "(II)V"⟩ ⟨"OrganConsole", "checkPiston", "(II)V"⟩ ∈ TB := tb_of 4 (by rfl) (by rfl)
theorem tw_5 : Cond.selects "OrganConsole" ⟨"OrganConsole", "pistonsOf", "(I)I"⟩ ⟨"OrganConsole", "pistonsOf", "(I)I"⟩ ∈ TB := tb_of 5 (by rfl) (by rfl)
theorem tw_6 : Cond.selects "OrganConsole" ⟨"OrganConsole", "recallPiston", "(II)I"⟩ ⟨"OrganConsole", "recallPiston", "(II)I"⟩ ∈ TB := tb_of 6 (by rfl) (by rfl)
theorem tw_7 : Cond.selects "OrganConsole" ⟨"OrganConsole", "rowOf", "(II)I"⟩ ⟨"OrganConsole", "rowOf", "(II)I"⟩ ∈ TB := tb_of 7 (by rfl) (by rfl)
theorem tw_8 : Cond.selects "OrganConsole" ⟨"OrganConsole", "scopeOf", "(II)J"⟩ ⟨"OrganConsole", "scopeOf", "(II)J"⟩ ∈ TB := tb_of 8 (by rfl) (by rfl)
theorem tw_9 : Cond.selects "OrganConsole" ⟨"OrganConsole", "checkUnlocked", "()V"⟩ ⟨"OrganConsole", "checkUnlocked", "()V"⟩ ∈ TB := tb_of 9 (by rfl) (by rfl)
theorem tw_10 : Cond.selects "OrganConsole$Stops" ⟨"OrganConsole$Stops", "turn", "(I)I"⟩ ⟨"OrganConsole$Stops", "turn", "(I)I"⟩ ∈ TB := tb_of 10 (by rfl) (by rfl)
theorem tw_11 : Cond.selects "OrganConsole" ⟨"OrganConsole", "speaking", "()J"⟩ ⟨"OrganConsole", "speaking", "()J"⟩ ∈ TB := tb_of 11 (by rfl) (by rfl)
theorem tw_12 : Cond.selects "OrganConsole" ⟨"OrganConsole", "windedPipes", "(I)I"⟩ ⟨"OrganConsole", "windedPipes", "(I)I"⟩ ∈ TB := tb_of 12 (by rfl) (by rfl)
theorem tw_13 : Cond.selects "OrganConsole$Keywork" ⟨"OrganConsole$Keywork", "reached", "(II)J"⟩ ⟨"OrganConsole$Keywork", "reached", "(II)J"⟩ ∈ TB := tb_of 13 (by rfl) (by rfl)
theorem tw_14 : Cond.selects "OrganConsole" ⟨"OrganConsole", "checkWire", "(II)V"⟩ ⟨"OrganConsole", "checkWire", "(II)V"⟩ ∈ TB := tb_of 14 (by rfl) (by rfl)
theorem tw_15 : Cond.selects "OrganConsole" ⟨"OrganConsole", "wiresOf", "(I)I"⟩ ⟨"OrganConsole", "wiresOf", "(I)I"⟩ ∈ TB := tb_of 15 (by rfl) (by rfl)
theorem tw_16 : Cond.selects "OrganConsole" ⟨"OrganConsole", "openPipes", "()I"⟩ ⟨"OrganConsole", "openPipes", "()I"⟩ ∈ TB := tb_of 16 (by rfl) (by rfl)
theorem tw_17 : Cond.selects "OrganConsoleModel" ⟨"OrganConsoleModel", "goes", "(ZZZ)Z"⟩ ⟨"OrganConsoleModel", "goes", "(ZZZ)Z"⟩ ∈ TB := tb_of 17 (by rfl) (by rfl)
theorem tw_18 : Cond.selects "OrganConsoleModel" ⟨"OrganConsoleModel", "isStop", "(I)Z"⟩ ⟨"OrganConsoleModel", "isStop", "(I)Z"⟩ ∈ TB := tb_of 18 (by rfl) (by rfl)
theorem tw_19 : Cond.selects "OrganConsoleModel" ⟨"OrganConsoleModel", "isSet", "(II)Z"⟩ ⟨"OrganConsoleModel", "isSet", "(II)Z"⟩ ∈ TB := tb_of 19 (by rfl) (by rfl)
theorem tw_20 : Cond.selects "OrganConsoleModel" ⟨"OrganConsoleModel", "recall", "(II)I"⟩ ⟨"OrganConsoleModel", "recall", "(II)I"⟩ ∈ TB := tb_of 20 (by rfl) (by rfl)
theorem tw_21 : Cond.selects "OrganConsoleModel" ⟨"OrganConsoleModel", "place", "(II)I"⟩ ⟨"OrganConsoleModel", "place", "(II)I"⟩ ∈ TB := tb_of 21 (by rfl) (by rfl)
theorem tw_22 : Cond.selects "OrganConsoleModel" ⟨"OrganConsoleModel", "inScope", "(III)Z"⟩ ⟨"OrganConsoleModel", "inScope", "(III)Z"⟩ ∈ TB := tb_of 22 (by rfl) (by rfl)
theorem tw_23 : Cond.selects "OrganConsoleModel" ⟨"OrganConsoleModel", "store", "(II)I"⟩ ⟨"OrganConsoleModel", "store", "(II)I"⟩ ∈ TB := tb_of 23 (by rfl) (by rfl)
theorem tw_24 : Cond.selects "OrganConsoleModel" ⟨"OrganConsoleModel", "speaks", "(I)Z"⟩ ⟨"OrganConsoleModel", "speaks", "(I)Z"⟩ ∈ TB := tb_of 24 (by rfl) (by rfl)
theorem tw_25 : Cond.selects "OrganConsoleModel" ⟨"OrganConsoleModel", "openPipes", "(I)I"⟩ ⟨"OrganConsoleModel", "openPipes", "(I)I"⟩ ∈ TB := tb_of 25 (by rfl) (by rfl)
theorem tw_26 : Cond.selects "OrganConsoleModel" ⟨"OrganConsoleModel", "isOpen", "(II)Z"⟩ ⟨"OrganConsoleModel", "isOpen", "(II)Z"⟩ ∈ TB := tb_of 26 (by rfl) (by rfl)
theorem tw_27 : Cond.selects "OrganConsoleModel" ⟨"OrganConsoleModel", "reached", "(II)Z"⟩ ⟨"OrganConsoleModel", "reached", "(II)Z"⟩ ∈ TB := tb_of 27 (by rfl) (by rfl)
theorem tw_28 : Cond.selects "OrganConsoleModel" ⟨"OrganConsoleModel", "isDown", "(II)Z"⟩ ⟨"OrganConsoleModel", "isDown", "(II)Z"⟩ ∈ TB := tb_of 28 (by rfl) (by rfl)
theorem tw_29 : Cond.selects "OrganConsoleModel" ⟨"OrganConsoleModel", "reboot", "()I"⟩ ⟨"OrganConsoleModel", "reboot", "()I"⟩ ∈ TB := tb_of 29 (by rfl) (by rfl)
theorem tw_30 : Cond.selects "OrganConsoleModel" ⟨"OrganConsoleModel", "whole", "(I)Z"⟩ ⟨"OrganConsoleModel", "whole", "(I)Z"⟩ ∈ TB := tb_of 30 (by rfl) (by rfl)
theorem tw_31 : Cond.selects "OrganConsoleModel" ⟨"OrganConsoleModel", "version", "()I"⟩ ⟨"OrganConsoleModel", "version", "()I"⟩ ∈ TB := tb_of 31 (by rfl) (by rfl)
theorem tw_32 : Cond.selects "OrganConsoleModel" ⟨"OrganConsoleModel", "some", "(I)I"⟩ ⟨"OrganConsoleModel", "some", "(I)I"⟩ ∈ TB := tb_of 32 (by rfl) (by rfl)
