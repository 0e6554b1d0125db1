set_option maxRecDepth 1000000 in
set_option maxHeartbeats 8000000 in
theorem lm_k_tb0 : lm_tbP lm_cl lm_dfs lm_P lm_vx lm_tb0 := ⟨rfl, rfl, by decide +kernel, List.forall_mem_cons.mpr ⟨⟨rfl, by decide +kernel, ("LatticeSuite", 66, "the tape is full"), by simp [lm_strs], rfl, rfl⟩, List.forall_mem_cons.mpr ⟨⟨rfl, by decide +kernel, ("LatticeSuite", 85, "the tape has fewer bytes"), by simp [lm_strs], rfl, rfl⟩, List.forall_mem_cons.mpr ⟨⟨rfl, by decide +kernel, ("LatticeSuite", 238, "the slot has no such byte"), by simp [lm_strs], rfl, rfl⟩, List.forall_mem_cons.mpr ⟨⟨rfl, by decide +kernel, ("LatticeSuite", 235, "a number is out of range"), by simp [lm_strs], rfl, rfl⟩, List.forall_mem_cons.mpr ⟨⟨rfl, by decide +kernel, ("LatticeSuite", 242, "RANDOM or CONTEXT does not have the length for this call"), by simp [lm_strs], rfl, rfl⟩, List.forall_mem_cons.mpr ⟨⟨rfl, by decide +kernel, ("LatticeSuite", 247, "a key or ciphertext is not one of this set"), by simp [lm_strs], rfl, rfl⟩, fun _ h => absurd h List.not_mem_nil⟩⟩⟩⟩⟩⟩⟩
set_option maxRecDepth 1000000 in
set_option maxHeartbeats 8000000 in
theorem lm_k_tb1 : lm_tbP lm_cl lm_dfs lm_P lm_vx lm_tb1 := ⟨rfl, rfl, by decide +kernel, fun _ h => by cases h⟩
set_option maxRecDepth 1000000 in
set_option maxHeartbeats 8000000 in
theorem lm_k_tb2 : lm_tbP lm_cl lm_dfs lm_P lm_vx lm_tb2 := ⟨rfl, rfl, by decide +kernel, fun _ h => by cases h⟩
set_option maxRecDepth 1000000 in
set_option maxHeartbeats 8000000 in
theorem lm_k_tb3 : lm_tbP lm_cl lm_dfs lm_P lm_vx lm_tb3 := ⟨rfl, rfl, by decide +kernel, fun _ h => by cases h⟩
set_option maxRecDepth 1000000 in
set_option maxHeartbeats 8000000 in
theorem lm_k_tb4 : lm_tbP lm_cl lm_dfs lm_P lm_vx lm_tb4 := ⟨rfl, rfl, by decide +kernel, fun _ h => by cases h⟩
set_option maxRecDepth 1000000 in
set_option maxHeartbeats 8000000 in
theorem lm_k_tb5 : lm_tbP lm_cl lm_dfs lm_P lm_vx lm_tb5 := ⟨rfl, rfl, by decide +kernel, fun _ h => by cases h⟩
set_option maxRecDepth 1000000 in
set_option maxHeartbeats 8000000 in
theorem lm_k_tb6 : lm_tbP lm_cl lm_dfs lm_P lm_vx lm_tb6 := ⟨rfl, rfl, by decide +kernel, fun _ h => by cases h⟩
set_option maxRecDepth 1000000 in
set_option maxHeartbeats 8000000 in
theorem lm_k_tb7 : lm_tbP lm_cl lm_dfs lm_P lm_vx lm_tb7 := ⟨rfl, rfl, by decide +kernel, fun _ h => by cases h⟩
set_option maxRecDepth 1000000 in
set_option maxHeartbeats 8000000 in
theorem lm_k_tb8 : lm_tbP lm_cl lm_dfs lm_P lm_vx lm_tb8 := ⟨rfl, rfl, by decide +kernel, List.forall_mem_cons.mpr ⟨⟨rfl, by decide +kernel, ("LatticeSuite$Kem", 201, "too many numbers were refused"), by simp [lm_strs], rfl, rfl⟩, fun _ h => absurd h List.not_mem_nil⟩⟩
set_option maxRecDepth 1000000 in
set_option maxHeartbeats 8000000 in
theorem lm_k_tb9 : lm_tbP lm_cl lm_dfs lm_P lm_vx lm_tb9 := ⟨rfl, rfl, by decide +kernel, List.forall_mem_cons.mpr ⟨⟨rfl, by decide +kernel, ("LatticeSuite$Dsa", 219, "no try gave a signature"), by simp [lm_strs], rfl, rfl⟩, List.forall_mem_cons.mpr ⟨⟨rfl, by decide +kernel, ("LatticeSuite$Dsa", 329, "too many numbers were refused"), by simp [lm_strs], rfl, rfl⟩, List.forall_mem_cons.mpr ⟨⟨rfl, by decide +kernel, ("LatticeSuite$Dsa", 333, "too many places were refused"), by simp [lm_strs], rfl, rfl⟩, fun _ h => absurd h List.not_mem_nil⟩⟩⟩⟩
set_option maxRecDepth 1000000 in
set_option maxHeartbeats 8000000 in
theorem lm_k_tb10 : lm_tbP lm_cl lm_dfs lm_P lm_vx lm_tb10 := ⟨rfl, rfl, by decide +kernel, fun _ h => by cases h⟩
set_option maxRecDepth 1000000 in
set_option maxHeartbeats 8000000 in
theorem lm_k_tb11 : lm_tbP lm_cl lm_dfs lm_P lm_vx lm_tb11 := ⟨rfl, rfl, by decide +kernel, fun _ h => by cases h⟩
set_option maxRecDepth 1000000 in
set_option maxHeartbeats 8000000 in
theorem lm_k_tb12 : lm_tbP lm_cl lm_dfs lm_P lm_vx lm_tb12 := ⟨rfl, rfl, by decide +kernel, fun _ h => by cases h⟩
set_option maxRecDepth 1000000 in
set_option maxHeartbeats 8000000 in
theorem lm_k_tb13 : lm_tbP lm_cl lm_dfs lm_P lm_vx lm_tb13 := ⟨rfl, rfl, by decide +kernel, fun _ h => by cases h⟩
set_option maxRecDepth 1000000 in
set_option maxHeartbeats 8000000 in
theorem lm_k_tb14 : lm_tbP lm_cl lm_dfs lm_P lm_vx lm_tb14 := ⟨rfl, rfl, by decide +kernel, fun _ h => by cases h⟩
set_option maxRecDepth 1000000 in
set_option maxHeartbeats 8000000 in
theorem lm_k_tb15 : lm_tbP lm_cl lm_dfs lm_P lm_vx lm_tb15 := ⟨rfl, rfl, by decide +kernel, fun _ h => by cases h⟩
set_option maxRecDepth 1000000 in
set_option maxHeartbeats 8000000 in
theorem lm_k_tb16 : lm_tbP lm_cl lm_dfs lm_P lm_vx lm_tb16 := ⟨rfl, rfl, by decide +kernel, fun _ h => by cases h⟩
set_option maxRecDepth 1000000 in
set_option maxHeartbeats 8000000 in
theorem lm_k_tb17 : lm_tbP lm_cl lm_dfs lm_P lm_vx lm_tb17 := ⟨rfl, rfl, by decide +kernel, fun _ h => by cases h⟩
