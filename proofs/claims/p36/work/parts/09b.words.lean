/-! ===== the three long methods of the law ===== -/
set_option maxRecDepth 100000 in
theorem zf_M_L_187 : zz_S RL 187 yL_isTold cL_isTold 16 (some Jvm.ClassFile.FieldType.boolean) 9 := ⟨(List.mem_of_getElem? (i := 723) (by decide +kernel)), (List.mem_of_getElem? (i := 724) (by decide +kernel)), (List.mem_of_getElem? (i := 725) rfl), (List.mem_of_getElem? (i := 20) (by decide +kernel)), ⟨by decide +kernel, by decide +kernel⟩, by decide +kernel, by decide⟩
set_option maxRecDepth 100000 in
theorem zf_M_L_191 : zz_SB RL 191 yL_isStruck cL_isStruck 24 (some Jvm.ClassFile.FieldType.boolean) 14 := ⟨(List.mem_of_getElem? (i := 726) (by decide +kernel)), (List.mem_of_getElem? (i := 727) (by decide +kernel)), (List.mem_of_getElem? (i := 728) rfl), (List.mem_of_getElem? (i := 20) (by decide +kernel)), ⟨by decide +kernel, by decide +kernel⟩, by decide +kernel⟩
set_option maxRecDepth 100000 in
theorem zf_M_L_195 : zz_SB RL 195 yL_isSo cL_isSo 25 (some Jvm.ClassFile.FieldType.boolean) 13 := ⟨(List.mem_of_getElem? (i := 646) (by decide +kernel)), (List.mem_of_getElem? (i := 647) (by decide +kernel)), (List.mem_of_getElem? (i := 648) rfl), (List.mem_of_getElem? (i := 20) (by decide +kernel)), ⟨by decide +kernel, by decide +kernel⟩, by decide +kernel⟩
