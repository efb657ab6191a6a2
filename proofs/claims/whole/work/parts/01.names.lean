-- ===== PART A: goes FIRST, ahead of the names: the tables' words, and 'selects' of the private methods out of them =====
/-- a private method of a class that the tables say can be made, by its rows of tables_1 -/
def lw_okq (q : MethodName × Nat) : Prop := (q.1.cls ≠ "java/lang/invoke/MethodHandle" ∧ q.1.cls ≠ "java/lang/invoke/VarHandle") ∧ Cond.instantiable q.1.cls q.2 ∈ tables_1 ∧ Cond.privateMethod q.1 ∈ tables_1 ∧ Cond.instanceMethod q.1 ∈ tables_1
theorem lw_p0 : lw_okq (⟨"SettingSearch$Machines", "fillTable", "()V"⟩, 5) := ⟨⟨by decide +kernel, by decide +kernel⟩, List.mem_of_getElem? (i := 20) (by decide +kernel), List.mem_of_getElem? (i := 186) (by decide +kernel), List.mem_of_getElem? (i := 187) (by decide +kernel)⟩
theorem lw_p1 : lw_okq (⟨"SettingSearch", "goOn", "(LSettingSearch$Answers;)I"⟩, 6) := ⟨⟨by decide +kernel, by decide +kernel⟩, List.mem_of_getElem? (i := 12) (by decide +kernel), List.mem_of_getElem? (i := 260) (by decide +kernel), List.mem_of_getElem? (i := 261) (by decide +kernel)⟩
theorem lw_p2 : lw_okq (⟨"SettingSearch", "boundOf", "(LSettingSearch$Answers;)J"⟩, 6) := ⟨⟨by decide +kernel, by decide +kernel⟩, List.mem_of_getElem? (i := 12) (by decide +kernel), List.mem_of_getElem? (i := 264) (by decide +kernel), List.mem_of_getElem? (i := 265) (by decide +kernel)⟩
theorem lw_p3 : lw_okq (⟨"SettingSearch", "weigh", "(LSettingSearch$Answers;I)V"⟩, 6) := ⟨⟨by decide +kernel, by decide +kernel⟩, List.mem_of_getElem? (i := 12) (by decide +kernel), List.mem_of_getElem? (i := 279) (by decide +kernel), List.mem_of_getElem? (i := 280) (by decide +kernel)⟩
theorem lw_p4 : lw_okq (⟨"SettingSearch$Rules", "isPure", "(LSettingSearch$Answers;II)Z"⟩, 6) := ⟨⟨by decide +kernel, by decide +kernel⟩, List.mem_of_getElem? (i := 46) (by decide +kernel), List.mem_of_getElem? (i := 287) (by decide +kernel), List.mem_of_getElem? (i := 288) (by decide +kernel)⟩
theorem lw_p5 : lw_okq (⟨"SettingSearch", "fewestClashing", "(LSettingSearch$Answers;)I"⟩, 6) := ⟨⟨by decide +kernel, by decide +kernel⟩, List.mem_of_getElem? (i := 12) (by decide +kernel), List.mem_of_getElem? (i := 370) (by decide +kernel), List.mem_of_getElem? (i := 371) (by decide +kernel)⟩
theorem lw_p6 : lw_okq (⟨"SettingSearch", "listKeptRules", "(LSettingSearch$Answers;)I"⟩, 6) := ⟨⟨by decide +kernel, by decide +kernel⟩, List.mem_of_getElem? (i := 12) (by decide +kernel), List.mem_of_getElem? (i := 374) (by decide +kernel), List.mem_of_getElem? (i := 375) (by decide +kernel)⟩
theorem lw_p7 : lw_okq (⟨"SettingSearch", "noneKeeps", "(II)Z"⟩, 6) := ⟨⟨by decide +kernel, by decide +kernel⟩, List.mem_of_getElem? (i := 12) (by decide +kernel), List.mem_of_getElem? (i := 378) (by decide +kernel), List.mem_of_getElem? (i := 379) (by decide +kernel)⟩
theorem lw_p8 : lw_okq (⟨"SettingSearch", "greatestWorth", "(LSettingSearch$Answers;I)J"⟩, 6) := ⟨⟨by decide +kernel, by decide +kernel⟩, List.mem_of_getElem? (i := 12) (by decide +kernel), List.mem_of_getElem? (i := 396) (by decide +kernel), List.mem_of_getElem? (i := 397) (by decide +kernel)⟩
theorem lw_p9 : lw_okq (⟨"SettingSearchModel", "isMachine", "(I)Z"⟩, 23) := ⟨⟨by decide +kernel, by decide +kernel⟩, List.mem_of_getElem? (i := 403) (by decide +kernel), List.mem_of_getElem? (i := 505) (by decide +kernel), List.mem_of_getElem? (i := 506) (by decide +kernel)⟩
theorem lw_p10 : lw_okq (⟨"SettingSearchModel", "feedAt", "(J)I"⟩, 23) := ⟨⟨by decide +kernel, by decide +kernel⟩, List.mem_of_getElem? (i := 403) (by decide +kernel), List.mem_of_getElem? (i := 515) (by decide +kernel), List.mem_of_getElem? (i := 516) (by decide +kernel)⟩
theorem lw_p11 : lw_okq (⟨"SettingSearchModel", "changesOf", "(I)I"⟩, 23) := ⟨⟨by decide +kernel, by decide +kernel⟩, List.mem_of_getElem? (i := 403) (by decide +kernel), List.mem_of_getElem? (i := 519) (by decide +kernel), List.mem_of_getElem? (i := 520) (by decide +kernel)⟩
theorem lw_p12 : lw_okq (⟨"SettingSearchModel", "settingOf", "(II)I"⟩, 23) := ⟨⟨by decide +kernel, by decide +kernel⟩, List.mem_of_getElem? (i := 403) (by decide +kernel), List.mem_of_getElem? (i := 523) (by decide +kernel), List.mem_of_getElem? (i := 524) (by decide +kernel)⟩
theorem lw_p13 : lw_okq (⟨"SettingSearchModel", "boundOf", "()J"⟩, 23) := ⟨⟨by decide +kernel, by decide +kernel⟩, List.mem_of_getElem? (i := 403) (by decide +kernel), List.mem_of_getElem? (i := 531) (by decide +kernel), List.mem_of_getElem? (i := 532) (by decide +kernel)⟩
theorem lw_p14 : lw_okq (⟨"SettingSearchModel", "look", "(I)V"⟩, 23) := ⟨⟨by decide +kernel, by decide +kernel⟩, List.mem_of_getElem? (i := 403) (by decide +kernel), List.mem_of_getElem? (i := 535) (by decide +kernel), List.mem_of_getElem? (i := 536) (by decide +kernel)⟩
theorem lw_p15 : lw_okq (⟨"SettingSearchModel", "stands", "(II)Z"⟩, 23) := ⟨⟨by decide +kernel, by decide +kernel⟩, List.mem_of_getElem? (i := 403) (by decide +kernel), List.mem_of_getElem? (i := 539) (by decide +kernel), List.mem_of_getElem? (i := 540) (by decide +kernel)⟩
def lw_privs_1 : List (MethodName × Nat) := [(⟨"SettingSearch$Machines", "fillTable", "()V"⟩, 5), (⟨"SettingSearch", "goOn", "(LSettingSearch$Answers;)I"⟩, 6), (⟨"SettingSearch", "boundOf", "(LSettingSearch$Answers;)J"⟩, 6), (⟨"SettingSearch", "weigh", "(LSettingSearch$Answers;I)V"⟩, 6), (⟨"SettingSearch$Rules", "isPure", "(LSettingSearch$Answers;II)Z"⟩, 6), (⟨"SettingSearch", "fewestClashing", "(LSettingSearch$Answers;)I"⟩, 6), (⟨"SettingSearch", "listKeptRules", "(LSettingSearch$Answers;)I"⟩, 6), (⟨"SettingSearch", "noneKeeps", "(II)Z"⟩, 6), (⟨"SettingSearch", "greatestWorth", "(LSettingSearch$Answers;I)J"⟩, 6), (⟨"SettingSearchModel", "isMachine", "(I)Z"⟩, 23), (⟨"SettingSearchModel", "feedAt", "(J)I"⟩, 23), (⟨"SettingSearchModel", "changesOf", "(I)I"⟩, 23), (⟨"SettingSearchModel", "settingOf", "(II)I"⟩, 23), (⟨"SettingSearchModel", "boundOf", "()J"⟩, 23), (⟨"SettingSearchModel", "look", "(I)V"⟩, 23), (⟨"SettingSearchModel", "stands", "(II)Z"⟩, 23)]
theorem lw_r1 : ∀ q ∈ lw_privs_1, lw_okq q := List.forall_mem_cons.mpr ⟨lw_p0, List.forall_mem_cons.mpr ⟨lw_p1, List.forall_mem_cons.mpr ⟨lw_p2, List.forall_mem_cons.mpr ⟨lw_p3, List.forall_mem_cons.mpr ⟨lw_p4, List.forall_mem_cons.mpr ⟨lw_p5, List.forall_mem_cons.mpr ⟨lw_p6, List.forall_mem_cons.mpr ⟨lw_p7, List.forall_mem_cons.mpr ⟨lw_p8, List.forall_mem_cons.mpr ⟨lw_p9, List.forall_mem_cons.mpr ⟨lw_p10, List.forall_mem_cons.mpr ⟨lw_p11, List.forall_mem_cons.mpr ⟨lw_p12, List.forall_mem_cons.mpr ⟨lw_p13, List.forall_mem_cons.mpr ⟨lw_p14, List.forall_mem_cons.mpr ⟨lw_p15, fun _ h => absurd h List.not_mem_nil⟩⟩⟩⟩⟩⟩⟩⟩⟩⟩⟩⟩⟩⟩⟩⟩
theorem lw_p16 : lw_okq (⟨"SettingSearchModel", "keeps", "(II)Z"⟩, 23) := ⟨⟨by decide +kernel, by decide +kernel⟩, List.mem_of_getElem? (i := 403) (by decide +kernel), List.mem_of_getElem? (i := 543) (by decide +kernel), List.mem_of_getElem? (i := 544) (by decide +kernel)⟩
theorem lw_p17 : lw_okq (⟨"SettingSearchModel", "worthOf", "(I)J"⟩, 23) := ⟨⟨by decide +kernel, by decide +kernel⟩, List.mem_of_getElem? (i := 403) (by decide +kernel), List.mem_of_getElem? (i := 547) (by decide +kernel), List.mem_of_getElem? (i := 548) (by decide +kernel)⟩
theorem lw_p18 : lw_okq (⟨"SettingSearchModel", "isTold", "(I)Z"⟩, 23) := ⟨⟨by decide +kernel, by decide +kernel⟩, List.mem_of_getElem? (i := 403) (by decide +kernel), List.mem_of_getElem? (i := 596) (by decide +kernel), List.mem_of_getElem? (i := 597) (by decide +kernel)⟩
theorem lw_p19 : lw_okq (⟨"SettingSearchModel", "canBeKept", "(I)Z"⟩, 23) := ⟨⟨by decide +kernel, by decide +kernel⟩, List.mem_of_getElem? (i := 403) (by decide +kernel), List.mem_of_getElem? (i := 603) (by decide +kernel), List.mem_of_getElem? (i := 604) (by decide +kernel)⟩
theorem lw_p20 : lw_okq (⟨"SettingSearchModel", "greatest", "(I)J"⟩, 23) := ⟨⟨by decide +kernel, by decide +kernel⟩, List.mem_of_getElem? (i := 403) (by decide +kernel), List.mem_of_getElem? (i := 611) (by decide +kernel), List.mem_of_getElem? (i := 612) (by decide +kernel)⟩
def lw_privs_2 : List (MethodName × Nat) := [(⟨"SettingSearchModel", "keeps", "(II)Z"⟩, 23), (⟨"SettingSearchModel", "worthOf", "(I)J"⟩, 23), (⟨"SettingSearchModel", "isTold", "(I)Z"⟩, 23), (⟨"SettingSearchModel", "canBeKept", "(I)Z"⟩, 23), (⟨"SettingSearchModel", "greatest", "(I)J"⟩, 23)]
theorem lw_r2 : ∀ q ∈ lw_privs_2, lw_okq q := List.forall_mem_cons.mpr ⟨lw_p16, List.forall_mem_cons.mpr ⟨lw_p17, List.forall_mem_cons.mpr ⟨lw_p18, List.forall_mem_cons.mpr ⟨lw_p19, List.forall_mem_cons.mpr ⟨lw_p20, fun _ h => absurd h List.not_mem_nil⟩⟩⟩⟩⟩
def lw_privs : List (MethodName × Nat) := lw_privs_1 ++ (lw_privs_2)
def lw_tbl : List Cond := k2_sels lw_privs ++ tables_1
theorem lw_privs_ok : ∀ q ∈ lw_privs, lw_okq q := by
  show ∀ q ∈ lw_privs_1 ++ (lw_privs_2), lw_okq q
  exact List.forall_mem_append.mpr ⟨lw_r1, lw_r2⟩
theorem tp_in {big ws : List Cond} (ps : List Nat) (h : ws = ps.filterMap (fun i => big[i]?)) : ∀ w ∈ ws, w ∈ big := by
  intro w hw
  rw [h] at hw
  obtain ⟨i, -, hi⟩ := List.mem_filterMap.mp hw
  exact List.mem_of_getElem? hi
/-- the words that a callee may take over -/
def lw_g : List Cond := lw_tbl.filter goodWord
theorem lw_g_in {w : Cond} (h : w ∈ lw_g) : w ∈ lw_tbl := (List.mem_filter.mp h).1
theorem lw_g_of {w : Cond} (h : w ∈ lw_tbl) (hg : goodWord w = true) : w ∈ lw_g := List.mem_filter.mpr ⟨h, hg⟩
theorem ga_all {c : Cond} (h : c ∈ lw_g) : GoodIn lw_g (c :: lw_g) := fun w hw => by
  have hm : w ∈ lw_g := (List.mem_cons.mp hw).elim (fun q => by rw [q]; exact h) id
  exact ⟨hm, good_of_word (List.mem_filter.mp hm).2⟩
theorem u_ws_good (C : String) (T : u_T) (N : Nat) : ∀ w ∈ u_ws C T N, goodWord w = true := by
  intro w hw
  obtain ⟨k, -, rfl⟩ := List.mem_map.mp hw
  unfold u_lay
  split <;> rfl
def R_SettingSearch : String := "SettingSearch"
def T_SettingSearch : u_T := fun k => match k with
  | 0 => ("SettingSearch", "machines", "LSettingSearch$Machines;", true)
  | 1 => ("SettingSearch", "rules", "LSettingSearch$Rules;", true)
  | 2 => ("SettingSearch", "cents", "[I", true)
  | 3 => ("SettingSearch", "feeds", "LSettingSearch$Feeds;", true)
  | 4 => ("SettingSearch", "search", "LSettingSearch$Search;", true)
  | _ => ("SettingSearch", "keptRules", "[I", true)
def ty_SettingSearch : Nat → FieldType := fun k => match k with
  | 0 => .object "SettingSearch$Machines"
  | 1 => .object "SettingSearch$Rules"
  | 2 => .array .int
  | 3 => .object "SettingSearch$Feeds"
  | 4 => .object "SettingSearch$Search"
  | _ => .array .int
theorem nm_SettingSearch : ∀ a, a < 6 → ∀ b, b < 6 → a ≠ b → (T_SettingSearch a).2.1 ≠ (T_SettingSearch b).2.1 := by decide +kernel
theorem ty_SettingSearch_ok : ∀ k, k < 6 → parseFieldDescriptor (T_SettingSearch k).2.2.1 = some (ty_SettingSearch k) := by decide +kernel
set_option maxRecDepth 20000 in
theorem in_SettingSearch : ∀ w ∈ u_ws R_SettingSearch T_SettingSearch 6, w ∈ lw_g := fun w h => lw_g_of (tp_in [185, 187, 189, 191, 193, 195] rfl w h) (u_ws_good _ _ _ w h)
def R_Ref : String := "SettingSearchModel"
def T_Ref : u_T := fun k => match k with
  | 0 => ("SettingSearchModel", "machines", "I", false)
  | 1 => ("SettingSearchModel", "settings", "[I", true)
  | 2 => ("SettingSearchModel", "current", "[I", true)
  | 3 => ("SettingSearchModel", "vectors", "I", false)
  | 4 => ("SettingSearchModel", "cents", "[I", true)
  | 5 => ("SettingSearchModel", "purities", "I", false)
  | 6 => ("SettingSearchModel", "cells", "[I", true)
  | 7 => ("SettingSearchModel", "aboves", "[I", true)
  | 8 => ("SettingSearchModel", "belows", "[I", true)
  | 9 => ("SettingSearchModel", "mosts", "[I", true)
  | 10 => ("SettingSearchModel", "feeds", "I", false)
  | 11 => ("SettingSearchModel", "grams", "[I", true)
  | 12 => ("SettingSearchModel", "isKept", "[Z", true)
  | 13 => ("SettingSearchModel", "came", "[I", true)
  | 14 => ("SettingSearchModel", "loads", "[I", true)
  | 15 => ("SettingSearchModel", "feed", "I", false)
  | 16 => ("SettingSearchModel", "goes", "Z", false)
  | 17 => ("SettingSearchModel", "ended", "Z", false)
  | 18 => ("SettingSearchModel", "order", "[I", true)
  | 19 => ("SettingSearchModel", "place", "I", false)
  | 20 => ("SettingSearchModel", "asks", "I", false)
  | 21 => ("SettingSearchModel", "best", "I", false)
  | _ => ("SettingSearchModel", "bestWorth", "J", false)
def ty_Ref : Nat → FieldType := fun k => match k with
  | 0 => .int
  | 1 => .array .int
  | 2 => .array .int
  | 3 => .int
  | 4 => .array .int
  | 5 => .int
  | 6 => .array .int
  | 7 => .array .int
  | 8 => .array .int
  | 9 => .array .int
  | 10 => .int
  | 11 => .array .int
  | 12 => .array .boolean
  | 13 => .array .int
  | 14 => .array .int
  | 15 => .int
  | 16 => .boolean
  | 17 => .boolean
  | 18 => .array .int
  | 19 => .int
  | 20 => .int
  | 21 => .int
  | _ => .long
theorem nm_Ref : ∀ a, a < 23 → ∀ b, b < 23 → a ≠ b → (T_Ref a).2.1 ≠ (T_Ref b).2.1 := by decide +kernel
theorem ty_Ref_ok : ∀ k, k < 23 → parseFieldDescriptor (T_Ref k).2.2.1 = some (ty_Ref k) := by decide +kernel
set_option maxRecDepth 20000 in
theorem in_Ref : ∀ w ∈ u_ws R_Ref T_Ref 23, w ∈ lw_g := fun w h => lw_g_of (tp_in [452, 454, 456, 458, 460, 462, 464, 466, 468, 470, 472, 474, 476, 478, 480, 482, 484, 486, 488, 490, 492, 494, 496] rfl w h) (u_ws_good _ _ _ w h)
def R_Answers : String := "SettingSearch$Answers"
def T_Answers : u_T := fun k => match k with
  | 0 => ("SettingSearch$Answers", "feed", "J", false)
  | 1 => ("SettingSearch$Answers", "count", "I", false)
  | 2 => ("SettingSearch$Answers", "known", "[Z", true)
  | 3 => ("SettingSearch$Answers", "grams", "[I", true)
  | _ => ("SettingSearch$Answers", "loads", "[I", true)
def ty_Answers : Nat → FieldType := fun k => match k with
  | 0 => .long
  | 1 => .int
  | 2 => .array .boolean
  | 3 => .array .int
  | _ => .array .int
theorem nm_Answers : ∀ a, a < 5 → ∀ b, b < 5 → a ≠ b → (T_Answers a).2.1 ≠ (T_Answers b).2.1 := by decide +kernel
theorem ty_Answers_ok : ∀ k, k < 5 → parseFieldDescriptor (T_Answers k).2.2.1 = some (ty_Answers k) := by decide +kernel
set_option maxRecDepth 20000 in
theorem in_Answers : ∀ w ∈ u_ws R_Answers T_Answers 5, w ∈ lw_g := fun w h => lw_g_of (tp_in [116, 118, 120, 122, 124] rfl w h) (u_ws_good _ _ _ w h)
def R_Feeds : String := "SettingSearch$Feeds"
def T_Feeds : u_T := fun k => match k with
  | 0 => ("SettingSearch$Feeds", "used", "I", false)
  | _ => ("SettingSearch$Feeds", "rows", "[LSettingSearch$Answers;", true)
def ty_Feeds : Nat → FieldType := fun k => match k with
  | 0 => .int
  | _ => .array (.object "SettingSearch$Answers")
theorem nm_Feeds : ∀ a, a < 2 → ∀ b, b < 2 → a ≠ b → (T_Feeds a).2.1 ≠ (T_Feeds b).2.1 := by decide +kernel
theorem ty_Feeds_ok : ∀ k, k < 2 → parseFieldDescriptor (T_Feeds k).2.2.1 = some (ty_Feeds k) := by decide +kernel
set_option maxRecDepth 20000 in
theorem in_Feeds : ∀ w ∈ u_ws R_Feeds T_Feeds 2, w ∈ lw_g := fun w h => lw_g_of (tp_in [130, 132] rfl w h) (u_ws_good _ _ _ w h)
def R_Machines : String := "SettingSearch$Machines"
def T_Machines : u_T := fun k => match k with
  | 0 => ("SettingSearch$Machines", "count", "I", false)
  | 1 => ("SettingSearch$Machines", "vectors", "I", false)
  | 2 => ("SettingSearch$Machines", "settings", "[I", true)
  | 3 => ("SettingSearch$Machines", "current", "[I", true)
  | _ => ("SettingSearch$Machines", "table", "[I", true)
def ty_Machines : Nat → FieldType := fun k => match k with
  | 0 => .int
  | 1 => .int
  | 2 => .array .int
  | 3 => .array .int
  | _ => .array .int
theorem nm_Machines : ∀ a, a < 5 → ∀ b, b < 5 → a ≠ b → (T_Machines a).2.1 ≠ (T_Machines b).2.1 := by decide +kernel
theorem ty_Machines_ok : ∀ k, k < 5 → parseFieldDescriptor (T_Machines k).2.2.1 = some (ty_Machines k) := by decide +kernel
set_option maxRecDepth 20000 in
theorem in_Machines : ∀ w ∈ u_ws R_Machines T_Machines 5, w ∈ lw_g := fun w h => lw_g_of (tp_in [54, 56, 58, 60, 62] rfl w h) (u_ws_good _ _ _ w h)
def R_Rules : String := "SettingSearch$Rules"
def T_Rules : u_T := fun k => match k with
  | 0 => ("SettingSearch$Rules", "purities", "I", false)
  | 1 => ("SettingSearch$Rules", "ports", "[I", true)
  | 2 => ("SettingSearch$Rules", "kinds", "[I", true)
  | 3 => ("SettingSearch$Rules", "above", "[I", true)
  | 4 => ("SettingSearch$Rules", "below", "[I", true)
  | _ => ("SettingSearch$Rules", "limits", "[I", true)
def ty_Rules : Nat → FieldType := fun k => match k with
  | 0 => .int
  | 1 => .array .int
  | 2 => .array .int
  | 3 => .array .int
  | 4 => .array .int
  | _ => .array .int
theorem nm_Rules : ∀ a, a < 6 → ∀ b, b < 6 → a ≠ b → (T_Rules a).2.1 ≠ (T_Rules b).2.1 := by decide +kernel
theorem ty_Rules_ok : ∀ k, k < 6 → parseFieldDescriptor (T_Rules k).2.2.1 = some (ty_Rules k) := by decide +kernel
set_option maxRecDepth 20000 in
theorem in_Rules : ∀ w ∈ u_ws R_Rules T_Rules 6, w ∈ lw_g := fun w h => lw_g_of (tp_in [82, 84, 86, 88, 90, 92] rfl w h) (u_ws_good _ _ _ w h)
def R_Search : String := "SettingSearch$Search"
def T_Search : u_T := fun k => match k with
  | 0 => ("SettingSearch$Search", "answers", "LSettingSearch$Answers;", false)
  | 1 => ("SettingSearch$Search", "going", "Z", false)
  | 2 => ("SettingSearch$Search", "asked", "I", false)
  | 3 => ("SettingSearch$Search", "best", "I", false)
  | 4 => ("SettingSearch$Search", "bestWorth", "J", false)
  | 5 => ("SettingSearch$Search", "at", "I", false)
  | 6 => ("SettingSearch$Search", "length", "I", false)
  | _ => ("SettingSearch$Search", "order", "[I", true)
def ty_Search : Nat → FieldType := fun k => match k with
  | 0 => .object "SettingSearch$Answers"
  | 1 => .boolean
  | 2 => .int
  | 3 => .int
  | 4 => .long
  | 5 => .int
  | 6 => .int
  | _ => .array .int
theorem nm_Search : ∀ a, a < 8 → ∀ b, b < 8 → a ≠ b → (T_Search a).2.1 ≠ (T_Search b).2.1 := by decide +kernel
theorem ty_Search_ok : ∀ k, k < 8 → parseFieldDescriptor (T_Search k).2.2.1 = some (ty_Search k) := by decide +kernel
set_option maxRecDepth 20000 in
theorem in_Search : ∀ w ∈ u_ws R_Search T_Search 8, w ∈ lw_g := fun w h => lw_g_of (tp_in [162, 164, 166, 168, 170, 172, 174, 176] rfl w h) (u_ws_good _ _ _ w h)
def R_Law : String := "SettingSearchLaw"
def R_JObject : String := "java/lang/Object"
def R_JInteger : String := "java/lang/Integer"
def R_JMath : String := "java/lang/Math"
def R_JArrays : String := "java/util/Arrays"
abbrev vw_cls : List vw_C := [(R_SettingSearch, T_SettingSearch, 6), (R_Ref, T_Ref, 23), (R_Answers, T_Answers, 5), (R_Feeds, T_Feeds, 2), (R_Machines, T_Machines, 5), (R_Rules, T_Rules, 6), (R_Search, T_Search, 8)]
abbrev b_SettingSearch_init : ByteArray := prog_1_method_1_code
def y_SettingSearch_init : MethodName := ⟨R_SettingSearch, "<init>", "()V"⟩
def w_SettingSearch_init : List Cond := .code y_SettingSearch_init b_SettingSearch_init 1 none :: lw_g
abbrev b_SettingSearch_machine : ByteArray := prog_1_method_2_code
def y_SettingSearch_machine : MethodName := ⟨R_SettingSearch, "machine", "(I)I"⟩
def w_SettingSearch_machine : List Cond := .code y_SettingSearch_machine b_SettingSearch_machine 2 (some .int) :: lw_g
abbrev b_SettingSearch_worth : ByteArray := prog_1_method_3_code
def y_SettingSearch_worth : MethodName := ⟨R_SettingSearch, "worth", "(III)Z"⟩
def w_SettingSearch_worth : List Cond := .code y_SettingSearch_worth b_SettingSearch_worth 5 (some .boolean) :: lw_g
abbrev b_SettingSearch_purity : ByteArray := prog_1_method_4_code
def y_SettingSearch_purity : MethodName := ⟨R_SettingSearch, "purity", "(IIII)I"⟩
def w_SettingSearch_purity : List Cond := .code y_SettingSearch_purity b_SettingSearch_purity 5 (some .int) :: lw_g
abbrev b_SettingSearch_most : ByteArray := prog_1_method_5_code
def y_SettingSearch_most : MethodName := ⟨R_SettingSearch, "most", "(II)Z"⟩
def w_SettingSearch_most : List Cond := .code y_SettingSearch_most b_SettingSearch_most 3 (some .boolean) :: lw_g
abbrev b_SettingSearch_feed : ByteArray := prog_1_method_6_code
def y_SettingSearch_feed : MethodName := ⟨R_SettingSearch, "feed", "(J)Z"⟩
def w_SettingSearch_feed : List Cond := .code y_SettingSearch_feed b_SettingSearch_feed 4 (some .boolean) :: lw_g
abbrev b_SettingSearch_next : ByteArray := prog_1_method_7_code
def y_SettingSearch_next : MethodName := ⟨R_SettingSearch, "next", "()I"⟩
def w_SettingSearch_next : List Cond := .code y_SettingSearch_next b_SettingSearch_next 2 (some .int) :: lw_g
abbrev b_SettingSearch_asked : ByteArray := prog_1_method_8_code
def y_SettingSearch_asked : MethodName := ⟨R_SettingSearch, "asked", "(I)I"⟩
def w_SettingSearch_asked : List Cond := .code y_SettingSearch_asked b_SettingSearch_asked 2 (some .int) :: lw_g
abbrev b_SettingSearch_answer : ByteArray := prog_1_method_9_code
def y_SettingSearch_answer : MethodName := ⟨R_SettingSearch, "answer", "(IIJ)Z"⟩
def w_SettingSearch_answer : List Cond := .code y_SettingSearch_answer b_SettingSearch_answer 7 (some .boolean) :: lw_g
abbrev b_SettingSearch_load : ByteArray := prog_1_method_10_code
def y_SettingSearch_load : MethodName := ⟨R_SettingSearch, "load", "(II)Z"⟩
def w_SettingSearch_load : List Cond := .code y_SettingSearch_load b_SettingSearch_load 4 (some .boolean) :: lw_g
abbrev b_SettingSearch_best : ByteArray := prog_1_method_11_code
def y_SettingSearch_best : MethodName := ⟨R_SettingSearch, "best", "(I)I"⟩
def w_SettingSearch_best : List Cond := .code y_SettingSearch_best b_SettingSearch_best 2 (some .int) :: lw_g
abbrev b_SettingSearch_sum : ByteArray := prog_1_method_12_code
def y_SettingSearch_sum : MethodName := ⟨R_SettingSearch, "sum", "()J"⟩
def w_SettingSearch_sum : List Cond := .code y_SettingSearch_sum b_SettingSearch_sum 1 (some .long) :: lw_g
abbrev b_SettingSearch_bound : ByteArray := prog_1_method_13_code
def y_SettingSearch_bound : MethodName := ⟨R_SettingSearch, "bound", "()J"⟩
def w_SettingSearch_bound : List Cond := .code y_SettingSearch_bound b_SettingSearch_bound 2 (some .long) :: lw_g
abbrev b_SettingSearch_proved : ByteArray := prog_1_method_14_code
def y_SettingSearch_proved : MethodName := ⟨R_SettingSearch, "proved", "()Z"⟩
def w_SettingSearch_proved : List Cond := .code y_SettingSearch_proved b_SettingSearch_proved 1 (some .boolean) :: lw_g
abbrev b_SettingSearch_changes : ByteArray := prog_1_method_15_code
def y_SettingSearch_changes : MethodName := ⟨R_SettingSearch, "changes", "()I"⟩
def w_SettingSearch_changes : List Cond := .code y_SettingSearch_changes b_SettingSearch_changes 1 (some .int) :: lw_g
abbrev b_SettingSearch_take : ByteArray := prog_1_method_16_code
def y_SettingSearch_take : MethodName := ⟨R_SettingSearch, "take", "()I"⟩
def w_SettingSearch_take : List Cond := .code y_SettingSearch_take b_SettingSearch_take 2 (some .int) :: lw_g
abbrev b_SettingSearch_kept : ByteArray := prog_1_method_17_code
def y_SettingSearch_kept : MethodName := ⟨R_SettingSearch, "kept", "(J)I"⟩
def w_SettingSearch_kept : List Cond := .code y_SettingSearch_kept b_SettingSearch_kept 4 (some .int) :: lw_g
abbrev b_SettingSearch_clash : ByteArray := prog_1_method_18_code
def y_SettingSearch_clash : MethodName := ⟨R_SettingSearch, "clash", "(I)I"⟩
def w_SettingSearch_clash : List Cond := .code y_SettingSearch_clash b_SettingSearch_clash 3 (some .int) :: lw_g
abbrev b_SettingSearch_room : ByteArray := prog_1_method_19_code
def y_SettingSearch_room : MethodName := ⟨R_SettingSearch, "room", "(I)J"⟩
def w_SettingSearch_room : List Cond := .code y_SettingSearch_room b_SettingSearch_room 6 (some .long) :: lw_g
abbrev b_SettingSearch_placeOf : ByteArray := prog_1_method_20_code
def y_SettingSearch_placeOf : MethodName := ⟨R_SettingSearch, "placeOf", "(II)I"⟩
def w_SettingSearch_placeOf : List Cond := .code y_SettingSearch_placeOf b_SettingSearch_placeOf 2 (some .int) :: lw_g
abbrev b_SettingSearch_goOn : ByteArray := prog_1_method_21_code
def y_SettingSearch_goOn : MethodName := ⟨R_SettingSearch, "goOn", "(LSettingSearch$Answers;)I"⟩
def w_SettingSearch_goOn : List Cond := .code y_SettingSearch_goOn b_SettingSearch_goOn 6 (some .int) :: lw_g
abbrev b_SettingSearch_weigh : ByteArray := prog_1_method_22_code
def y_SettingSearch_weigh : MethodName := ⟨R_SettingSearch, "weigh", "(LSettingSearch$Answers;I)V"⟩
def w_SettingSearch_weigh : List Cond := .code y_SettingSearch_weigh b_SettingSearch_weigh 5 none :: lw_g
abbrev b_SettingSearch_boundOf : ByteArray := prog_1_method_23_code
def y_SettingSearch_boundOf : MethodName := ⟨R_SettingSearch, "boundOf", "(LSettingSearch$Answers;)J"⟩
def w_SettingSearch_boundOf : List Cond := .code y_SettingSearch_boundOf b_SettingSearch_boundOf 4 (some .long) :: lw_g
abbrev b_SettingSearch_greatestWorth : ByteArray := prog_1_method_24_code
def y_SettingSearch_greatestWorth : MethodName := ⟨R_SettingSearch, "greatestWorth", "(LSettingSearch$Answers;I)J"⟩
def w_SettingSearch_greatestWorth : List Cond := .code y_SettingSearch_greatestWorth b_SettingSearch_greatestWorth 6 (some .long) :: lw_g
abbrev b_SettingSearch_fewestClashing : ByteArray := prog_1_method_25_code
def y_SettingSearch_fewestClashing : MethodName := ⟨R_SettingSearch, "fewestClashing", "(LSettingSearch$Answers;)I"⟩
def w_SettingSearch_fewestClashing : List Cond := .code y_SettingSearch_fewestClashing b_SettingSearch_fewestClashing 7 (some .int) :: lw_g
abbrev b_SettingSearch_listKeptRules : ByteArray := prog_1_method_26_code
def y_SettingSearch_listKeptRules : MethodName := ⟨R_SettingSearch, "listKeptRules", "(LSettingSearch$Answers;)I"⟩
def w_SettingSearch_listKeptRules : List Cond := .code y_SettingSearch_listKeptRules b_SettingSearch_listKeptRules 4 (some .int) :: lw_g
abbrev b_SettingSearch_noneKeeps : ByteArray := prog_1_method_27_code
def y_SettingSearch_noneKeeps : MethodName := ⟨R_SettingSearch, "noneKeeps", "(II)Z"⟩
def w_SettingSearch_noneKeeps : List Cond := .code y_SettingSearch_noneKeeps b_SettingSearch_noneKeeps 4 (some .boolean) :: lw_g
abbrev b_SettingSearch_numberAt : ByteArray := prog_1_method_28_code
def y_SettingSearch_numberAt : MethodName := ⟨R_SettingSearch, "numberAt", "(II)I"⟩
def w_SettingSearch_numberAt : List Cond := .code y_SettingSearch_numberAt b_SettingSearch_numberAt 4 (some .int) :: lw_g
abbrev b_Ref_init : ByteArray := prog_8_method_1_code
def y_Ref_init : MethodName := ⟨R_Ref, "<init>", "()V"⟩
def w_Ref_init : List Cond := .code y_Ref_init b_Ref_init 2 none :: lw_g
abbrev b_Ref_isIn : ByteArray := prog_8_method_3_code
def y_Ref_isIn : MethodName := ⟨R_Ref, "isIn", "(JJJ)Z"⟩
def w_Ref_isIn : List Cond := .code y_Ref_isIn b_Ref_isIn 6 (some .boolean) :: lw_g
abbrev b_Ref_isMachine : ByteArray := prog_8_method_4_code
def y_Ref_isMachine : MethodName := ⟨R_Ref, "isMachine", "(I)Z"⟩
def w_Ref_isMachine : List Cond := .code y_Ref_isMachine b_Ref_isMachine 2 (some .boolean) :: lw_g
abbrev b_Ref_isCell : ByteArray := prog_8_method_5_code
def y_Ref_isCell : MethodName := ⟨R_Ref, "isCell", "(II)Z"⟩
def w_Ref_isCell : List Cond := .code y_Ref_isCell b_Ref_isCell 2 (some .boolean) :: lw_g
abbrev b_Ref_machine : ByteArray := prog_8_method_6_code
def y_Ref_machine : MethodName := ⟨R_Ref, "machine", "(I)I"⟩
def w_Ref_machine : List Cond := .code y_Ref_machine b_Ref_machine 3 (some .int) :: lw_g
abbrev b_Ref_worth : ByteArray := prog_8_method_7_code
def y_Ref_worth : MethodName := ⟨R_Ref, "worth", "(III)Z"⟩
def w_Ref_worth : List Cond := .code y_Ref_worth b_Ref_worth 4 (some .boolean) :: lw_g
abbrev b_Ref_purity : ByteArray := prog_8_method_8_code
def y_Ref_purity : MethodName := ⟨R_Ref, "purity", "(IIII)I"⟩
def w_Ref_purity : List Cond := .code y_Ref_purity b_Ref_purity 5 (some .int) :: lw_g
abbrev b_Ref_most : ByteArray := prog_8_method_9_code
def y_Ref_most : MethodName := ⟨R_Ref, "most", "(II)Z"⟩
def w_Ref_most : List Cond := .code y_Ref_most b_Ref_most 3 (some .boolean) :: lw_g
abbrev b_Ref_settingOf : ByteArray := prog_8_method_10_code
def y_Ref_settingOf : MethodName := ⟨R_Ref, "settingOf", "(II)I"⟩
def w_Ref_settingOf : List Cond := .code y_Ref_settingOf b_Ref_settingOf 5 (some .int) :: lw_g
abbrev b_Ref_changesOf : ByteArray := prog_8_method_11_code
def y_Ref_changesOf : MethodName := ⟨R_Ref, "changesOf", "(I)I"⟩
def w_Ref_changesOf : List Cond := .code y_Ref_changesOf b_Ref_changesOf 4 (some .int) :: lw_g
abbrev b_Ref_keeps : ByteArray := prog_8_method_12_code
def y_Ref_keeps : MethodName := ⟨R_Ref, "keeps", "(II)Z"⟩
def w_Ref_keeps : List Cond := .code y_Ref_keeps b_Ref_keeps 7 (some .boolean) :: lw_g
abbrev b_Ref_isTold : ByteArray := prog_8_method_13_code
def y_Ref_isTold : MethodName := ⟨R_Ref, "isTold", "(I)Z"⟩
def w_Ref_isTold : List Cond := .code y_Ref_isTold b_Ref_isTold 2 (some .boolean) :: lw_g
abbrev b_Ref_stands : ByteArray := prog_8_method_14_code
def y_Ref_stands : MethodName := ⟨R_Ref, "stands", "(II)Z"⟩
def w_Ref_stands : List Cond := .code y_Ref_stands b_Ref_stands 5 (some .boolean) :: lw_g
abbrev b_Ref_worthOf : ByteArray := prog_8_method_15_code
def y_Ref_worthOf : MethodName := ⟨R_Ref, "worthOf", "(I)J"⟩
def w_Ref_worthOf : List Cond := .code y_Ref_worthOf b_Ref_worthOf 5 (some .long) :: lw_g
abbrev b_Ref_boundOf : ByteArray := prog_8_method_16_code
def y_Ref_boundOf : MethodName := ⟨R_Ref, "boundOf", "()J"⟩
def w_Ref_boundOf : List Cond := .code y_Ref_boundOf b_Ref_boundOf 3 (some .long) :: lw_g
abbrev b_Ref_feedAt : ByteArray := prog_8_method_17_code
def y_Ref_feedAt : MethodName := ⟨R_Ref, "feedAt", "(J)I"⟩
def w_Ref_feedAt : List Cond := .code y_Ref_feedAt b_Ref_feedAt 4 (some .int) :: lw_g
abbrev b_Ref_feed : ByteArray := prog_8_method_18_code
def y_Ref_feed : MethodName := ⟨R_Ref, "feed", "(J)Z"⟩
def w_Ref_feed : List Cond := .code y_Ref_feed b_Ref_feed 6 (some .boolean) :: lw_g
abbrev b_Ref_look : ByteArray := prog_8_method_19_code
def y_Ref_look : MethodName := ⟨R_Ref, "look", "(I)V"⟩
def w_Ref_look : List Cond := .code y_Ref_look b_Ref_look 3 none :: lw_g
abbrev b_Ref_next : ByteArray := prog_8_method_20_code
def y_Ref_next : MethodName := ⟨R_Ref, "next", "()I"⟩
def w_Ref_next : List Cond := .code y_Ref_next b_Ref_next 4 (some .int) :: lw_g
abbrev b_Ref_asked : ByteArray := prog_8_method_21_code
def y_Ref_asked : MethodName := ⟨R_Ref, "asked", "(I)I"⟩
def w_Ref_asked : List Cond := .code y_Ref_asked b_Ref_asked 2 (some .int) :: lw_g
abbrev b_Ref_answer : ByteArray := prog_8_method_22_code
def y_Ref_answer : MethodName := ⟨R_Ref, "answer", "(IIJ)Z"⟩
def w_Ref_answer : List Cond := .code y_Ref_answer b_Ref_answer 10 (some .boolean) :: lw_g
abbrev b_Ref_load : ByteArray := prog_8_method_23_code
def y_Ref_load : MethodName := ⟨R_Ref, "load", "(II)Z"⟩
def w_Ref_load : List Cond := .code y_Ref_load b_Ref_load 3 (some .boolean) :: lw_g
abbrev b_Ref_best : ByteArray := prog_8_method_24_code
def y_Ref_best : MethodName := ⟨R_Ref, "best", "(I)I"⟩
def w_Ref_best : List Cond := .code y_Ref_best b_Ref_best 2 (some .int) :: lw_g
abbrev b_Ref_sum : ByteArray := prog_8_method_25_code
def y_Ref_sum : MethodName := ⟨R_Ref, "sum", "()J"⟩
def w_Ref_sum : List Cond := .code y_Ref_sum b_Ref_sum 1 (some .long) :: lw_g
abbrev b_Ref_bound : ByteArray := prog_8_method_26_code
def y_Ref_bound : MethodName := ⟨R_Ref, "bound", "()J"⟩
def w_Ref_bound : List Cond := .code y_Ref_bound b_Ref_bound 1 (some .long) :: lw_g
abbrev b_Ref_proved : ByteArray := prog_8_method_27_code
def y_Ref_proved : MethodName := ⟨R_Ref, "proved", "()Z"⟩
def w_Ref_proved : List Cond := .code y_Ref_proved b_Ref_proved 1 (some .boolean) :: lw_g
abbrev b_Ref_changes : ByteArray := prog_8_method_28_code
def y_Ref_changes : MethodName := ⟨R_Ref, "changes", "()I"⟩
def w_Ref_changes : List Cond := .code y_Ref_changes b_Ref_changes 1 (some .int) :: lw_g
abbrev b_Ref_take : ByteArray := prog_8_method_29_code
def y_Ref_take : MethodName := ⟨R_Ref, "take", "()I"⟩
def w_Ref_take : List Cond := .code y_Ref_take b_Ref_take 3 (some .int) :: lw_g
abbrev b_Ref_kept : ByteArray := prog_8_method_30_code
def y_Ref_kept : MethodName := ⟨R_Ref, "kept", "(J)I"⟩
def w_Ref_kept : List Cond := .code y_Ref_kept b_Ref_kept 6 (some .int) :: lw_g
abbrev b_Ref_canBeKept : ByteArray := prog_8_method_31_code
def y_Ref_canBeKept : MethodName := ⟨R_Ref, "canBeKept", "(I)Z"⟩
def w_Ref_canBeKept : List Cond := .code y_Ref_canBeKept b_Ref_canBeKept 5 (some .boolean) :: lw_g
abbrev b_Ref_sizeOf : ByteArray := prog_8_method_32_code
def y_Ref_sizeOf : MethodName := ⟨R_Ref, "sizeOf", "(I)I"⟩
def w_Ref_sizeOf : List Cond := .code y_Ref_sizeOf b_Ref_sizeOf 3 (some .int) :: lw_g
abbrev b_Ref_clash : ByteArray := prog_8_method_33_code
def y_Ref_clash : MethodName := ⟨R_Ref, "clash", "(I)I"⟩
def w_Ref_clash : List Cond := .code y_Ref_clash b_Ref_clash 6 (some .int) :: lw_g
abbrev b_Ref_greatest : ByteArray := prog_8_method_34_code
def y_Ref_greatest : MethodName := ⟨R_Ref, "greatest", "(I)J"⟩
def w_Ref_greatest : List Cond := .code y_Ref_greatest b_Ref_greatest 6 (some .long) :: lw_g
abbrev b_Ref_room : ByteArray := prog_8_method_35_code
def y_Ref_room : MethodName := ⟨R_Ref, "room", "(I)J"⟩
def w_Ref_room : List Cond := .code y_Ref_room b_Ref_room 2 (some .long) :: lw_g
abbrev b_Answers_init : ByteArray := prog_2_method_1_code
def y_Answers_init : MethodName := ⟨R_Answers, "<init>", "()V"⟩
def w_Answers_init : List Cond := .code y_Answers_init b_Answers_init 1 none :: lw_g
abbrev b_Answers_open : ByteArray := prog_2_method_2_code
def y_Answers_open : MethodName := ⟨R_Answers, "open", "(J)V"⟩
def w_Answers_open : List Cond := .code y_Answers_open b_Answers_open 4 none :: lw_g
abbrev b_Answers_clearRow : ByteArray := prog_2_method_3_code
def y_Answers_clearRow : MethodName := ⟨R_Answers, "clearRow", "(I)V"⟩
def w_Answers_clearRow : List Cond := .code y_Answers_clearRow b_Answers_clearRow 3 none :: lw_g
abbrev b_Answers_knows : ByteArray := prog_2_method_4_code
def y_Answers_knows : MethodName := ⟨R_Answers, "knows", "(I)Z"⟩
def w_Answers_knows : List Cond := .code y_Answers_knows b_Answers_knows 2 (some .boolean) :: lw_g
abbrev b_Answers_keep : ByteArray := prog_2_method_5_code
def y_Answers_keep : MethodName := ⟨R_Answers, "keep", "(I)V"⟩
def w_Answers_keep : List Cond := .code y_Answers_keep b_Answers_keep 2 none :: lw_g
abbrev b_Answers_tellGrams : ByteArray := prog_2_method_6_code
def y_Answers_tellGrams : MethodName := ⟨R_Answers, "tellGrams", "(IIJ)Z"⟩
def w_Answers_tellGrams : List Cond := .code y_Answers_tellGrams b_Answers_tellGrams 8 (some .boolean) :: lw_g
abbrev b_Answers_tellLoad : ByteArray := prog_2_method_7_code
def y_Answers_tellLoad : MethodName := ⟨R_Answers, "tellLoad", "(III)Z"⟩
def w_Answers_tellLoad : List Cond := .code y_Answers_tellLoad b_Answers_tellLoad 4 (some .boolean) :: lw_g
abbrev b_Answers_gramsAt : ByteArray := prog_2_method_8_code
def y_Answers_gramsAt : MethodName := ⟨R_Answers, "gramsAt", "(II)I"⟩
def w_Answers_gramsAt : List Cond := .code y_Answers_gramsAt b_Answers_gramsAt 3 (some .int) :: lw_g
abbrev b_Answers_loadOf : ByteArray := prog_2_method_9_code
def y_Answers_loadOf : MethodName := ⟨R_Answers, "loadOf", "(II)I"⟩
def w_Answers_loadOf : List Cond := .code y_Answers_loadOf b_Answers_loadOf 3 (some .int) :: lw_g
abbrev b_Answers_worthBy : ByteArray := prog_2_method_10_code
def y_Answers_worthBy : MethodName := ⟨R_Answers, "worthBy", "(I[I)J"⟩
def w_Answers_worthBy : List Cond := .code y_Answers_worthBy b_Answers_worthBy 6 (some .long) :: lw_g
abbrev b_Answers_hasRow : ByteArray := prog_2_method_11_code
def y_Answers_hasRow : MethodName := ⟨R_Answers, "hasRow", "(I)Z"⟩
def w_Answers_hasRow : List Cond := .code y_Answers_hasRow b_Answers_hasRow 1 (some .boolean) :: lw_g
abbrev b_Feeds_init : ByteArray := prog_3_method_1_code
def y_Feeds_init : MethodName := ⟨R_Feeds, "<init>", "()V"⟩
def w_Feeds_init : List Cond := .code y_Feeds_init b_Feeds_init 2 none :: lw_g
abbrev b_Feeds_forget : ByteArray := prog_3_method_2_code
def y_Feeds_forget : MethodName := ⟨R_Feeds, "forget", "()V"⟩
def w_Feeds_forget : List Cond := .code y_Feeds_forget b_Feeds_forget 1 none :: lw_g
abbrev b_Feeds_find : ByteArray := prog_3_method_3_code
def y_Feeds_find : MethodName := ⟨R_Feeds, "find", "(J)LSettingSearch$Answers;"⟩
def w_Feeds_find : List Cond := .code y_Feeds_find b_Feeds_find 4 (some (.object "SettingSearch$Answers")) :: lw_g
abbrev b_Feeds_findOrOpen : ByteArray := prog_3_method_4_code
def y_Feeds_findOrOpen : MethodName := ⟨R_Feeds, "findOrOpen", "(J)LSettingSearch$Answers;"⟩
def w_Feeds_findOrOpen : List Cond := .code y_Feeds_findOrOpen b_Feeds_findOrOpen 4 (some (.object "SettingSearch$Answers")) :: lw_g
abbrev b_Machines_init : ByteArray := prog_4_method_1_code
def y_Machines_init : MethodName := ⟨R_Machines, "<init>", "()V"⟩
def w_Machines_init : List Cond := .code y_Machines_init b_Machines_init 1 none :: lw_g
abbrev b_Machines_has : ByteArray := prog_4_method_2_code
def y_Machines_has : MethodName := ⟨R_Machines, "has", "(I)Z"⟩
def w_Machines_has : List Cond := .code y_Machines_has b_Machines_has 2 (some .boolean) :: lw_g
abbrev b_Machines_add : ByteArray := prog_4_method_3_code
def y_Machines_add : MethodName := ⟨R_Machines, "add", "(I)Z"⟩
def w_Machines_add : List Cond := .code y_Machines_add b_Machines_add 2 (some .boolean) :: lw_g
abbrev b_Machines_fillTable : ByteArray := prog_4_method_4_code
def y_Machines_fillTable : MethodName := ⟨R_Machines, "fillTable", "()V"⟩
def w_Machines_fillTable : List Cond := .code y_Machines_fillTable b_Machines_fillTable 5 none :: lw_g
abbrev b_Machines_settingIn : ByteArray := prog_4_method_5_code
def y_Machines_settingIn : MethodName := ⟨R_Machines, "settingIn", "(II)I"⟩
def w_Machines_settingIn : List Cond := .code y_Machines_settingIn b_Machines_settingIn 3 (some .int) :: lw_g
abbrev b_Machines_changesOf : ByteArray := prog_4_method_6_code
def y_Machines_changesOf : MethodName := ⟨R_Machines, "changesOf", "(I)I"⟩
def w_Machines_changesOf : List Cond := .code y_Machines_changesOf b_Machines_changesOf 4 (some .int) :: lw_g
abbrev b_Machines_become : ByteArray := prog_4_method_7_code
def y_Machines_become : MethodName := ⟨R_Machines, "become", "(I)V"⟩
def w_Machines_become : List Cond := .code y_Machines_become b_Machines_become 3 none :: lw_g
abbrev b_Rules_init : ByteArray := prog_5_method_1_code
def y_Rules_init : MethodName := ⟨R_Rules, "<init>", "()V"⟩
def w_Rules_init : List Cond := .code y_Rules_init b_Rules_init 1 none :: lw_g
abbrev b_Rules_addPurity : ByteArray := prog_5_method_2_code
def y_Rules_addPurity : MethodName := ⟨R_Rules, "addPurity", "(IIII)I"⟩
def w_Rules_addPurity : List Cond := .code y_Rules_addPurity b_Rules_addPurity 5 (some .int) :: lw_g
abbrev b_Rules_told : ByteArray := prog_5_method_3_code
def y_Rules_told : MethodName := ⟨R_Rules, "told", "()I"⟩
def w_Rules_told : List Cond := .code y_Rules_told b_Rules_told 3 (some .int) :: lw_g
abbrev b_Rules_keptBy : ByteArray := prog_5_method_4_code
def y_Rules_keptBy : MethodName := ⟨R_Rules, "keptBy", "(LSettingSearch$Answers;I)I"⟩
def w_Rules_keptBy : List Cond := .code y_Rules_keptBy b_Rules_keptBy 6 (some .int) :: lw_g
abbrev b_Rules_isPure : ByteArray := prog_5_method_5_code
def y_Rules_isPure : MethodName := ⟨R_Rules, "isPure", "(LSettingSearch$Answers;II)Z"⟩
def w_Rules_isPure : List Cond := .code y_Rules_isPure b_Rules_isPure 8 (some .boolean) :: lw_g
abbrev b_Search_init : ByteArray := prog_6_method_1_code
def y_Search_init : MethodName := ⟨R_Search, "<init>", "()V"⟩
def w_Search_init : List Cond := .code y_Search_init b_Search_init 1 none :: lw_g
abbrev b_Search_forget : ByteArray := prog_6_method_2_code
def y_Search_forget : MethodName := ⟨R_Search, "forget", "()V"⟩
def w_Search_forget : List Cond := .code y_Search_forget b_Search_forget 1 none :: lw_g
abbrev b_Search_begin : ByteArray := prog_6_method_3_code
def y_Search_begin : MethodName := ⟨R_Search, "begin", "(LSettingSearch$Answers;LSettingSearch$Machines;)V"⟩
def w_Search_begin : List Cond := .code y_Search_begin b_Search_begin 5 none :: lw_g
abbrev b_JInteger_bitCount : ByteArray := prog_9_method_49_code
def y_JInteger_bitCount : MethodName := ⟨R_JInteger, "bitCount", "(I)I"⟩
def w_JInteger_bitCount : List Cond := .code y_JInteger_bitCount b_JInteger_bitCount 1 (some .int) :: lw_g
abbrev b_JArrays_fill : ByteArray := prog_11_method_103_code
def y_JArrays_fill : MethodName := ⟨R_JArrays, "fill", "([II)V"⟩
def w_JArrays_fill : List Cond := .code y_JArrays_fill b_JArrays_fill 4 none :: lw_g
/-- the links to private members of nest mates -/
def nw_ls : List Cond := [Cond.fieldLinkNest R_SettingSearch 56 "SettingSearch$Machines" "count" "I" "SettingSearch", Cond.fieldLinkNest R_Search 47 "SettingSearch$Machines" "count" "I" "SettingSearch", Cond.fieldLinkNest R_Search 52 "SettingSearch$Machines" "vectors" "I" "SettingSearch", Cond.fieldLinkNest R_SettingSearch 72 "SettingSearch$Rules" "limits" "[I" "SettingSearch", Cond.fieldLinkNest R_Feeds 22 "SettingSearch$Answers" "feed" "J" "SettingSearch", Cond.fieldLinkNest R_SettingSearch 187 "SettingSearch$Answers" "feed" "J" "SettingSearch", Cond.fieldLinkNest R_SettingSearch 136 "SettingSearch$Answers" "count" "I" "SettingSearch", Cond.fieldLinkNest R_SettingSearch 85 "SettingSearch$Search" "answers" "LSettingSearch$Answers;" "SettingSearch", Cond.fieldLinkNest R_SettingSearch 44 "SettingSearch$Search" "going" "Z" "SettingSearch", Cond.fieldLinkNest R_SettingSearch 89 "SettingSearch$Search" "asked" "I" "SettingSearch", Cond.fieldLinkNest R_SettingSearch 113 "SettingSearch$Search" "best" "I" "SettingSearch", Cond.fieldLinkNest R_SettingSearch 116 "SettingSearch$Search" "bestWorth" "J" "SettingSearch", Cond.fieldLinkNest R_SettingSearch 155 "SettingSearch$Search" "at" "I" "SettingSearch", Cond.fieldLinkNest R_SettingSearch 158 "SettingSearch$Search" "length" "I" "SettingSearch", Cond.fieldLinkNest R_SettingSearch 161 "SettingSearch$Search" "order" "[I" "SettingSearch", Cond.methodLinkNest R_Rules 47 y_SettingSearch_placeOf R_SettingSearch]
set_option maxRecDepth 20000 in
theorem nw_in : ∀ w ∈ nw_ls, w ∈ lw_tbl := tp_in [47, 48, 50, 81, 109, 110, 112, 147, 148, 151, 153, 155, 157, 159, 161, 311] rfl
