/-! the words that lay the fields -/
theorem tb_nil : ∀ z ∈ ([] : List Cond), z ∈ TB := fun _ h => absurd h List.not_mem_nil
theorem in_cp : ∀ w ∈ u_ws "OrganConsole$Copy" T_cp 3, w ∈ TB := by
  intro w hw
  have h : w ∈ [u_lay "OrganConsole$Copy" T_cp 0, u_lay "OrganConsole$Copy" T_cp 1, u_lay "OrganConsole$Copy" T_cp 2] := hw
  exact (tb_cons tw_168 (tb_cons tw_170 (tb_cons tw_172 tb_nil))) w h
theorem in_ke : ∀ w ∈ u_ws "OrganConsole$Keywork" T_ke 6, w ∈ TB := by
  intro w hw
  have h : w ∈ [u_lay "OrganConsole$Keywork" T_ke 0, u_lay "OrganConsole$Keywork" T_ke 1, u_lay "OrganConsole$Keywork" T_ke 2, u_lay "OrganConsole$Keywork" T_ke 3, u_lay "OrganConsole$Keywork" T_ke 4, u_lay "OrganConsole$Keywork" T_ke 5] := hw
  exact (tb_cons tw_74 (tb_cons tw_76 (tb_cons tw_78 (tb_cons tw_80 (tb_cons tw_82 (tb_cons tw_84 tb_nil)))))) w h
theorem in_me : ∀ w ∈ u_ws "OrganConsole$Memory" T_me 2, w ∈ TB := by
  intro w hw
  have h : w ∈ [u_lay "OrganConsole$Memory" T_me 0, u_lay "OrganConsole$Memory" T_me 1] := hw
  exact (tb_cons tw_142 (tb_cons tw_144 tb_nil)) w h
theorem in_st : ∀ w ∈ u_ws "OrganConsole$Stops" T_st 9, w ∈ TB := by
  intro w hw
  have h : w ∈ [u_lay "OrganConsole$Stops" T_st 0, u_lay "OrganConsole$Stops" T_st 1, u_lay "OrganConsole$Stops" T_st 2, u_lay "OrganConsole$Stops" T_st 3, u_lay "OrganConsole$Stops" T_st 4, u_lay "OrganConsole$Stops" T_st 5, u_lay "OrganConsole$Stops" T_st 6, u_lay "OrganConsole$Stops" T_st 7, u_lay "OrganConsole$Stops" T_st 8] := hw
  exact (tb_cons tw_113 (tb_cons tw_115 (tb_cons tw_117 (tb_cons tw_119 (tb_cons tw_121 (tb_cons tw_123 (tb_cons tw_125 (tb_cons tw_127 (tb_cons tw_129 tb_nil))))))))) w h
theorem in_sr : ∀ w ∈ u_ws "OrganConsole$Store" T_sr 3, w ∈ TB := by
  intro w hw
  have h : w ∈ [u_lay "OrganConsole$Store" T_sr 0, u_lay "OrganConsole$Store" T_sr 1, u_lay "OrganConsole$Store" T_sr 2] := hw
  exact (tb_cons tw_180 (tb_cons tw_182 (tb_cons tw_184 tb_nil))) w h
theorem in_oc : ∀ w ∈ u_ws "OrganConsole" T_oc 10, w ∈ TB := by
  intro w hw
  have h : w ∈ [u_lay "OrganConsole" T_oc 0, u_lay "OrganConsole" T_oc 1, u_lay "OrganConsole" T_oc 2, u_lay "OrganConsole" T_oc 3, u_lay "OrganConsole" T_oc 4, u_lay "OrganConsole" T_oc 5, u_lay "OrganConsole" T_oc 6, u_lay "OrganConsole" T_oc 7, u_lay "OrganConsole" T_oc 8, u_lay "OrganConsole" T_oc 9] := hw
  exact (tb_cons tw_197 (tb_cons tw_199 (tb_cons tw_201 (tb_cons tw_203 (tb_cons tw_205 (tb_cons tw_207 (tb_cons tw_209 (tb_cons tw_211 (tb_cons tw_213 (tb_cons tw_215 tb_nil)))))))))) w h
theorem in_mo : ∀ w ∈ u_ws "OrganConsoleModel" T_mo 29, w ∈ TB := by
  intro w hw
  have h : w ∈ [u_lay "OrganConsoleModel" T_mo 0, u_lay "OrganConsoleModel" T_mo 1, u_lay "OrganConsoleModel" T_mo 2, u_lay "OrganConsoleModel" T_mo 3, u_lay "OrganConsoleModel" T_mo 4, u_lay "OrganConsoleModel" T_mo 5, u_lay "OrganConsoleModel" T_mo 6, u_lay "OrganConsoleModel" T_mo 7, u_lay "OrganConsoleModel" T_mo 8, u_lay "OrganConsoleModel" T_mo 9, u_lay "OrganConsoleModel" T_mo 10, u_lay "OrganConsoleModel" T_mo 11, u_lay "OrganConsoleModel" T_mo 12, u_lay "OrganConsoleModel" T_mo 13, u_lay "OrganConsoleModel" T_mo 14, u_lay "OrganConsoleModel" T_mo 15, u_lay "OrganConsoleModel" T_mo 16, u_lay "OrganConsoleModel" T_mo 17, u_lay "OrganConsoleModel" T_mo 18, u_lay "OrganConsoleModel" T_mo 19, u_lay "OrganConsoleModel" T_mo 20, u_lay "OrganConsoleModel" T_mo 21, u_lay "OrganConsoleModel" T_mo 22, u_lay "OrganConsoleModel" T_mo 23, u_lay "OrganConsoleModel" T_mo 24, u_lay "OrganConsoleModel" T_mo 25, u_lay "OrganConsoleModel" T_mo 26, u_lay "OrganConsoleModel" T_mo 27, u_lay "OrganConsoleModel" T_mo 28] := hw
  exact (tb_cons tw_770 (tb_cons tw_772 (tb_cons tw_774 (tb_cons tw_776 (tb_cons tw_778 (tb_cons tw_780 (tb_cons tw_782 (tb_cons tw_784 (tb_cons tw_786 (tb_cons tw_788 (tb_cons tw_790 (tb_cons tw_792 (tb_cons tw_794 (tb_cons tw_796 (tb_cons tw_798 (tb_cons tw_800 (tb_cons tw_802 (tb_cons tw_804 (tb_cons tw_806 (tb_cons tw_808 (tb_cons tw_810 (tb_cons tw_812 (tb_cons tw_814 (tb_cons tw_816 (tb_cons tw_818 (tb_cons tw_820 (tb_cons tw_822 (tb_cons tw_824 (tb_cons tw_826 tb_nil))))))))))))))))))))))))))))) w h
