theorem z_cls {s : State} {c0 c1 c2 c3 c4 c5 c6 : ClassId} {i0 i1 i2 i3 i4 i5 i6 : Nat → Nat} (k0 : u_Kn s R_SettingSearch T_SettingSearch 6 c0 i0) (k1 : u_Kn s R_Ref T_Ref 23 c1 i1) (k2 : u_Kn s R_Answers T_Answers 5 c2 i2) (k3 : u_Kn s R_Feeds T_Feeds 2 c3 i3) (k4 : u_Kn s R_Machines T_Machines 5 c4 i4) (k5 : u_Kn s R_Rules T_Rules 6 c5 i5) (k6 : u_Kn s R_Search T_Search 8 c6 i6) : ∃ (dC : Nat → ClassId) (dI : Nat → Nat → Nat), ∀ (c : Nat) (q : vw_C), vw_cls[c]? = some q → u_Kn s q.1 q.2.1 q.2.2 (dC c) (dI c) := by
  refine ⟨fun k => match k with | 0 => c0 | 1 => c1 | 2 => c2 | 3 => c3 | 4 => c4 | 5 => c5 | _ => c6, fun k => match k with | 0 => i0 | 1 => i1 | 2 => i2 | 3 => i3 | 4 => i4 | 5 => i5 | _ => i6, ?_⟩
  intro c q h
  have hc : c < 7 := (List.getElem?_eq_some_iff.mp h).1
  rcases (show c = 0 ∨ c = 1 ∨ c = 2 ∨ c = 3 ∨ c = 4 ∨ c = 5 ∨ c = 6 by omega) with rfl | rfl | rfl | rfl | rfl | rfl | rfl
  · obtain rfl : (R_SettingSearch, T_SettingSearch, 6) = q := Option.some.inj h
    exact k0
  · obtain rfl : (R_Ref, T_Ref, 23) = q := Option.some.inj h
    exact k1
  · obtain rfl : (R_Answers, T_Answers, 5) = q := Option.some.inj h
    exact k2
  · obtain rfl : (R_Feeds, T_Feeds, 2) = q := Option.some.inj h
    exact k3
  · obtain rfl : (R_Machines, T_Machines, 5) = q := Option.some.inj h
    exact k4
  · obtain rfl : (R_Rules, T_Rules, 6) = q := Option.some.inj h
    exact k5
  · obtain rfl : (R_Search, T_Search, 8) = q := Option.some.inj h
    exact k6
theorem z_arr {ty : FieldType} {args : Array Value} {s : State} (h : (Cond.arrayClass ty).before args s = true) : ∃ c, s.vm.findClass ("[" ++ ty.toString) = some c ∧ ArrOfT s c ty := by
  obtain ⟨c, k, comp, f1, f2, f3⟩ := Cond.arrayClass_spec h
  exact ⟨c, f1, fun N z => ⟨(fun k h => by cases h), k, f2, comp, f3⟩⟩
theorem z_over {C : String} {args : Array Value} {s : State} (h : (Cond.arrayOver (.object C)).before args s = true) : ∃ c, ArrOfT s c (.object C) ∧ va_RA s c (.object C) := by
  obtain ⟨comp, c, k, f1, _, f3, f4, f5⟩ := Cond.arrayOver_spec h
  exact ⟨c, fun N z => ⟨(fun k h => by cases h), k, f3, comp, f4⟩, k, comp, f3, f4, f1, f5⟩
theorem z_fl (j : Nat) (hj : j < 5) : q_fl (fun _ => 0) (-1) 5 j = -1 := by
  rcases (show j = 0 ∨ j = 1 ∨ j = 2 ∨ j = 3 ∨ j = 4 by omega) with rfl | rfl | rfl | rfl | rfl <;> rfl
theorem z_M  : i_M 0 1 0 1 0 1 (fun _ => 0) (fun _ => 0) (fun _ => 0) (fun _ => 0) (fun _ => 0) := ⟨rfl, rfl, by omega, rfl, rfl, by omega, by omega, rfl, rfl, fun j hj => absurd hj (Nat.not_lt_zero _), fun v _ m hm => absurd hm (Nat.not_lt_zero _), fun _ _ => rfl⟩
theorem z_R {fM uM : Nat → Int32} (h1 : fM = q_fl (fun _ => 0) (-1) 5) (h2 : uM = q_fl (fun _ => 0) (-1) 5) : i_R 0 0 0 0 (fun _ => 0) (fun _ => 0) (fun _ => 0) (fun _ => 0) fM (fun _ => 0) (fun _ => 0) (fun _ => 0) uM := ⟨rfl, rfl, by omega, ⟨fun j hj => absurd hj (Nat.not_lt_zero _), fun j hj => absurd hj (Nat.not_lt_zero _), fun j hj => Or.inl (by rw [h1]; exact z_fl j hj), fun j _ hj => by rw [h1]; exact z_fl j hj⟩, rfl, rfl, by rw [h1, h2]⟩
theorem z_W  : i_W (fun _ => 0) (fun _ => 0) := ⟨rfl, fun j _ => (by decide : (0 : Int32) ≤ 1000)⟩
theorem z_F  : i_F 0 0 0 (fun _ => 0) (fun _ => 0) := ⟨rfl, rfl, by omega, fun j hj => absurd hj (Nat.not_lt_zero _)⟩
theorem z_K  : i_K 0 1 (fun _ => 0) (fun _ _ => 0) (fun _ => 0) := ⟨fun j hj => absurd hj (Nat.not_lt_zero _), fun j hj => absurd hj (Nat.not_lt_zero _), fun _ _ _ _ _ => rfl⟩
theorem z_G  : i_G (fun _ _ => 0) (fun _ _ => 0) (fun _ => 0) (fun _ => 0) := fun j _ v _ => ⟨⟨fun _ _ => rfl, fun _ _ => rfl⟩, fun k _ => (by decide : ¬ (0 : Int32) < 0)⟩
theorem z_S (AA : Nat → Nat) : i_S 0 1 0 AA .null 0 (-1) (-1) (-9223372036854775808) 0 0 (-1) 0 0 0 (-1) (-1) 0 (fun _ => 0) (fun _ => 0) := ⟨rfl, Or.inl rfl, rfl, rfl, Or.inl rfl, Or.inl ⟨rfl, rfl, rfl⟩, Or.inl ⟨rfl, rfl, rfl, rfl, rfl⟩⟩
