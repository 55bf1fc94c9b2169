bytetheorem mi0 : MWi yX0_init cX0_init 1 0 := ⟨lwg_in 48 (by decide +kernel) (by decide +kernel), lwg_in 24 (by decide +kernel) (by decide +kernel), lwg_in 49 (by decide +kernel) (by decide +kernel), rfl, by decide +kernel⟩
theorem mi1 : MWi yX1_init cX1_init 3 1 := ⟨lwg_in 257 (by decide +kernel) (by decide +kernel), lwg_in 31 (by decide +kernel) (by decide +kernel), lwg_in 258 (by decide +kernel) (by decide +kernel), rfl, by decide +kernel⟩
theorem mi2 : MWi yX2_init cX2_init 1 0 := ⟨lwg_in 98 (by decide +kernel) (by decide +kernel), lwg_in 26 (by decide +kernel) (by decide +kernel), lwg_in 99 (by decide +kernel) (by decide +kernel), rfl, by decide +kernel⟩
theorem mi3 : MWi yX3_init cX3_init 1 0 := ⟨lwg_in 78 (by decide +kernel) (by decide +kernel), lwg_in 25 (by decide +kernel) (by decide +kernel), lwg_in 79 (by decide +kernel) (by decide +kernel), rfl, by decide +kernel⟩
theorem mi4 : MWi yX4_init cX4_init 3 2 := ⟨lwg_in 288 (by decide +kernel) (by decide +kernel), lwg_in 32 (by decide +kernel) (by decide +kernel), lwg_in 289 (by decide +kernel) (by decide +kernel), rfl, by decide +kernel⟩
theorem mi5 : MWi yX5_init cX5_init 2 0 := ⟨lwg_in 38 (by decide +kernel) (by decide +kernel), lwg_in 23 (by decide +kernel) (by decide +kernel), lwg_in 39 (by decide +kernel) (by decide +kernel), rfl, by decide +kernel⟩
theorem nwL_17 : NW RL 17 5 := by
  refine ⟨RX5, TX5, 8, tyX5, rfl, lwg_in 35 (by decide +kernel) (by decide +kernel), lwg_in 36 (by decide +kernel) (by decide +kernel), lwg_in 23 (by decide +kernel) (by decide +kernel), iX5, by decide +kernel, fun k hk => ?_⟩
  rcases (show k = 0 ∨ k = 1 ∨ k = 2 ∨ k = 3 ∨ k = 4 ∨ k = 5 ∨ k = 6 ∨ k = 7 by omega) with rfl | rfl | rfl | rfl | rfl | rfl | rfl | rfl
  · exact Or.inr (Or.inl ⟨rfl, rfl⟩)
  · exact Or.inl ⟨rfl, rfl⟩
  · exact Or.inr (Or.inl ⟨rfl, rfl⟩)
  · exact Or.inr (Or.inl ⟨rfl, rfl⟩)
  · exact Or.inr (Or.inl ⟨rfl, rfl⟩)
  · exact Or.inl ⟨rfl, rfl⟩
  · exact Or.inr (Or.inl ⟨rfl, rfl⟩)
  · exact Or.inr (Or.inl ⟨rfl, rfl⟩)
theorem ckL_17 : Cond.classLink RL 17 "AsLastTime" ∈ lwg := lwg_in 35 (by decide +kernel) (by decide +kernel)
theorem loX5_1 : Cond.methodLink RX5 1 Lib.objectInit ∈ lwg := lwg_in 40 (by decide +kernel) (by decide +kernel)
theorem nwX5_9 : NW RX5 9 3 := by
  refine ⟨RX3, TX3, 4, tyX3, rfl, lwg_in 43 (by decide +kernel) (by decide +kernel), lwg_in 76 (by decide +kernel) (by decide +kernel), lwg_in 25 (by decide +kernel) (by decide +kernel), iX3, by decide +kernel, fun k hk => ?_⟩
  rcases (show k = 0 ∨ k = 1 ∨ k = 2 ∨ k = 3 by omega) with rfl | rfl | rfl | rfl
  · exact Or.inr (Or.inl ⟨rfl, rfl⟩)
  · exact Or.inr (Or.inl ⟨rfl, rfl⟩)
  · exact Or.inr (Or.inl ⟨rfl, rfl⟩)
  · exact Or.inl ⟨rfl, rfl⟩
theorem ckX5_9 : Cond.classLink RX5 9 "AsLastTime$Text" ∈ lwg := lwg_in 43 (by decide +kernel) (by decide +kernel)
-- 44 (Jvm.ClassFile.FieldType.object "AsLastTime$Text")
theorem nwX5_19 : NW RX5 19 0 := by
  refine ⟨RX0, TX0, 7, tyX0, rfl, lwg_in 45 (by decide +kernel) (by decide +kernel), lwg_in 46 (by decide +kernel) (by decide +kernel), lwg_in 24 (by decide +kernel) (by decide +kernel), iX0, by decide +kernel, fun k hk => ?_⟩
  rcases (show k = 0 ∨ k = 1 ∨ k = 2 ∨ k = 3 ∨ k = 4 ∨ k = 5 ∨ k = 6 by omega) with rfl | rfl | rfl | rfl | rfl | rfl | rfl
  · exact Or.inr (Or.inl ⟨rfl, rfl⟩)
  · exact Or.inl ⟨rfl, rfl⟩
  · exact Or.inl ⟨rfl, rfl⟩
  · exact Or.inl ⟨rfl, rfl⟩
  · exact Or.inl ⟨rfl, rfl⟩
  · exact Or.inl ⟨rfl, rfl⟩
  · exact Or.inr (Or.inl ⟨rfl, rfl⟩)
theorem ckX5_19 : Cond.classLink RX5 19 "AsLastTime$Reader" ∈ lwg := lwg_in 45 (by decide +kernel) (by decide +kernel)
theorem loX0_3 : Cond.methodLink RX0 3 Lib.objectInit ∈ lwg := lwg_in 50 (by decide +kernel) (by decide +kernel)
theorem ac_int : Cond.arrayClass .int ∈ lwg := lwg_in 73 (by decide +kernel) (by decide +kernel)
theorem nwX5_30 : NW RX5 30 2 := by
  refine ⟨RX2, TX2, 3, tyX2, rfl, lwg_in 74 (by decide +kernel) (by decide +kernel), lwg_in 96 (by decide +kernel) (by decide +kernel), lwg_in 26 (by decide +kernel) (by decide +kernel), iX2, by decide +kernel, fun k hk => ?_⟩
  rcases (show k = 0 ∨ k = 1 ∨ k = 2 by omega) with rfl | rfl | rfl
  · exact Or.inr (Or.inl ⟨rfl, rfl⟩)
  · exact Or.inl ⟨rfl, rfl⟩
  · exact Or.inl ⟨rfl, rfl⟩
theorem ckX5_30 : Cond.classLink RX5 30 "AsLastTime$Sheet" ∈ lwg := lwg_in 74 (by decide +kernel) (by decide +kernel)
-- 75 (Jvm.ClassFile.FieldType.object "AsLastTime$Sheet")
theorem loX3_3 : Cond.methodLink RX3 3 Lib.objectInit ∈ lwg := lwg_in 80 (by decide +kernel) (by decide +kernel)
theorem loX2_3 : Cond.methodLink RX2 3 Lib.objectInit ∈ lwg := lwg_in 100 (by decide +kernel) (by decide +kernel)
theorem nwX5_61 : NW RX5 61 1 := by
  refine ⟨RX1, TX1, 5, tyX1, rfl, lwg_in 254 (by decide +kernel) (by decide +kernel), lwg_in 255 (by decide +kernel) (by decide +kernel), lwg_in 31 (by decide +kernel) (by decide +kernel), iX1, by decide +kernel, fun k hk => ?_⟩
  rcases (show k = 0 ∨ k = 1 ∨ k = 2 ∨ k = 3 ∨ k = 4 by omega) with rfl | rfl | rfl | rfl | rfl
  · exact Or.inr (Or.inl ⟨rfl, rfl⟩)
  · exact Or.inr (Or.inl ⟨rfl, rfl⟩)
  · exact Or.inl ⟨rfl, rfl⟩
  · exact Or.inl ⟨rfl, rfl⟩
  · exact Or.inl ⟨rfl, rfl⟩
theorem ckX5_61 : Cond.classLink RX5 61 "AsLastTime$Salon" ∈ lwg := lwg_in 254 (by decide +kernel) (by decide +kernel)
theorem loX1_3 : Cond.methodLink RX1 3 Lib.objectInit ∈ lwg := lwg_in 259 (by decide +kernel) (by decide +kernel)
theorem ckX1_9 : Cond.classLink RX1 9 "[[I" ∈ lwg := lwg_in 260 (by decide +kernel) (by decide +kernel)
-- 261 (Jvm.ClassFile.FieldType.array Jvm.ClassFile.FieldType.int)
theorem ac_byte : Cond.arrayClass .byte ∈ lwg := lwg_in 284 (by decide +kernel) (by decide +kernel)
theorem nwX5_73 : NW RX5 73 4 := by
  refine ⟨RX4, TX4, 5, tyX4, rfl, lwg_in 285 (by decide +kernel) (by decide +kernel), lwg_in 286 (by decide +kernel) (by decide +kernel), lwg_in 32 (by decide +kernel) (by decide +kernel), iX4, by decide +kernel, fun k hk => ?_⟩
  rcases (show k = 0 ∨ k = 1 ∨ k = 2 ∨ k = 3 ∨ k = 4 by omega) with rfl | rfl | rfl | rfl | rfl
  · exact Or.inr (Or.inl ⟨rfl, rfl⟩)
  · exact Or.inr (Or.inl ⟨rfl, rfl⟩)
  · exact Or.inr (Or.inl ⟨rfl, rfl⟩)
  · exact Or.inr (Or.inl ⟨rfl, rfl⟩)
  · exact Or.inr (Or.inl ⟨rfl, rfl⟩)
theorem ckX5_73 : Cond.classLink RX5 73 "AsLastTime$Thought" ∈ lwg := lwg_in 285 (by decide +kernel) (by decide +kernel)
theorem loX4_3 : Cond.methodLink RX4 3 Lib.objectInit ∈ lwg := lwg_in 290 (by decide +kernel) (by decide +kernel)
theorem ckX4_9 : Cond.classLink RX4 9 "[[I" ∈ lwg := lwg_in 291 (by decide +kernel) (by decide +kernel)
theorem obw : Cond.instanceMethod Lib.objectInit ∈ lwg ∧ Cond.code Lib.objectInit ⟨#[0xb1]⟩ 1 none ∈ lwg := ⟨lwg_in 41 (by decide +kernel) (by decide +kernel), lwg_in 42 (by decide +kernel) (by decide +kernel)⟩
