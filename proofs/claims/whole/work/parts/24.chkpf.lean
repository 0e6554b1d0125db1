def lm_pf0 : List Nat := [2, 6, 10, 14, 18, 22, 26]
set_option maxRecDepth 1000000 in
set_option maxHeartbeats 8000000 in
theorem lm_k_pf0 : ∀ f ∈ lm_pf0, lm_ok2 (lm_fpE lm_cl lm_tb0.own f) := by
  have h : lm_ok2 (lm_pf0.flatMap (lm_fpE lm_cl lm_tb0.own)) := rfl
  exact fun f hf => h.of hf
def lm_pf1 : List Nat := [402]
set_option maxRecDepth 1000000 in
set_option maxHeartbeats 8000000 in
theorem lm_k_pf1 : ∀ f ∈ lm_pf1, lm_ok2 (lm_fpE lm_cl lm_tb1.own f) := by
  have h : lm_ok2 (lm_pf1.flatMap (lm_fpE lm_cl lm_tb1.own)) := rfl
  exact fun f hf => h.of hf
def lm_pf2 : List Nat := [802, 806, 810, 814, 818, 822]
set_option maxRecDepth 1000000 in
set_option maxHeartbeats 8000000 in
theorem lm_k_pf2 : ∀ f ∈ lm_pf2, lm_ok2 (lm_fpE lm_cl lm_tb2.own f) := by
  have h : lm_ok2 (lm_pf2.flatMap (lm_fpE lm_cl lm_tb2.own)) := rfl
  exact fun f hf => h.of hf
def lm_pf3 : List Nat := [1202, 1218]
set_option maxRecDepth 1000000 in
set_option maxHeartbeats 8000000 in
theorem lm_k_pf3 : ∀ f ∈ lm_pf3, lm_ok2 (lm_fpE lm_cl lm_tb3.own f) := by
  have h : lm_ok2 (lm_pf3.flatMap (lm_fpE lm_cl lm_tb3.own)) := rfl
  exact fun f hf => h.of hf
def lm_pf4 : List Nat := [1602, 1606, 1610, 1614]
set_option maxRecDepth 1000000 in
set_option maxHeartbeats 8000000 in
theorem lm_k_pf4 : ∀ f ∈ lm_pf4, lm_ok2 (lm_fpE lm_cl lm_tb4.own f) := by
  have h : lm_ok2 (lm_pf4.flatMap (lm_fpE lm_cl lm_tb4.own)) := rfl
  exact fun f hf => h.of hf
def lm_pf5 : List Nat := [2030, 2034, 2038]
set_option maxRecDepth 1000000 in
set_option maxHeartbeats 8000000 in
theorem lm_k_pf5 : ∀ f ∈ lm_pf5, lm_ok2 (lm_fpE lm_cl lm_tb5.own f) := by
  have h : lm_ok2 (lm_pf5.flatMap (lm_fpE lm_cl lm_tb5.own)) := rfl
  exact fun f hf => h.of hf
def lm_pf6 : List Nat := [2430, 2434, 2438]
set_option maxRecDepth 1000000 in
set_option maxHeartbeats 8000000 in
theorem lm_k_pf6 : ∀ f ∈ lm_pf6, lm_ok2 (lm_fpE lm_cl lm_tb6.own f) := by
  have h : lm_ok2 (lm_pf6.flatMap (lm_fpE lm_cl lm_tb6.own)) := rfl
  exact fun f hf => h.of hf
def lm_pf7 : List Nat := [2830, 2834, 2838]
set_option maxRecDepth 1000000 in
set_option maxHeartbeats 8000000 in
theorem lm_k_pf7 : ∀ f ∈ lm_pf7, lm_ok2 (lm_fpE lm_cl lm_tb7.own f) := by
  have h : lm_ok2 (lm_pf7.flatMap (lm_fpE lm_cl lm_tb7.own)) := rfl
  exact fun f hf => h.of hf
def lm_pf8 : List Nat := [3202, 3206, 3210, 3214, 3218, 3222, 3226, 3230, 3234, 3238, 3242, 3246]
set_option maxRecDepth 1000000 in
set_option maxHeartbeats 8000000 in
theorem lm_k_pf8 : ∀ f ∈ lm_pf8, lm_ok2 (lm_fpE lm_cl lm_tb8.own f) := by
  have h : lm_ok2 (lm_pf8.flatMap (lm_fpE lm_cl lm_tb8.own)) := rfl
  exact fun f hf => h.of hf
def lm_pf9 : List Nat := [3602, 3606, 3610, 3614, 3618, 3622, 3626, 3630, 3634, 3638, 3642, 3646, 3650, 3654, 3658, 3662, 3666]
set_option maxRecDepth 1000000 in
set_option maxHeartbeats 8000000 in
theorem lm_k_pf9 : ∀ f ∈ lm_pf9, lm_ok2 (lm_fpE lm_cl lm_tb9.own f) := by
  have h : lm_ok2 (lm_pf9.flatMap (lm_fpE lm_cl lm_tb9.own)) := rfl
  exact fun f hf => h.of hf
def lm_pf10 : List Nat := [4002, 4050, 4054, 4058, 4062, 4066, 4070, 4074, 4078]
set_option maxRecDepth 1000000 in
set_option maxHeartbeats 8000000 in
theorem lm_k_pf10 : ∀ f ∈ lm_pf10, lm_ok2 (lm_fpE lm_cl lm_tb10.own f) := by
  have h : lm_ok2 (lm_pf10.flatMap (lm_fpE lm_cl lm_tb10.own)) := rfl
  exact fun f hf => h.of hf
def lm_pf11 : List Nat := [4402, 4406, 4410, 4422, 4426, 4430, 4434, 4438, 4442, 4446, 4450, 4454, 4458, 4462, 4466, 4470, 4490, 4494, 4502, 4506, 4510, 4514, 4518, 4522, 4526, 4546, 4550, 4554, 4558, 4562, 4566, 4602, 4606, 4610, 4614, 4618, 4622, 4626, 4630, 4634, 4638, 4642, 4646, 4650, 4654, 4658, 4662, 4666]
set_option maxRecDepth 1000000 in
set_option maxHeartbeats 8000000 in
theorem lm_k_pf11 : ∀ f ∈ lm_pf11, lm_ok2 (lm_fpE lm_cl lm_tb11.own f) := by
  have h : lm_ok2 (lm_pf11.flatMap (lm_fpE lm_cl lm_tb11.own)) := rfl
  exact fun f hf => h.of hf
def lm_pf12 : List Nat := []
theorem lm_k_pf12 : ∀ f ∈ lm_pf12, lm_ok2 (lm_fpE lm_cl lm_tb12.own f) := fun f hf => by cases hf
def lm_pf13 : List Nat := []
theorem lm_k_pf13 : ∀ f ∈ lm_pf13, lm_ok2 (lm_fpE lm_cl lm_tb13.own f) := fun f hf => by cases hf
def lm_pf14 : List Nat := []
theorem lm_k_pf14 : ∀ f ∈ lm_pf14, lm_ok2 (lm_fpE lm_cl lm_tb14.own f) := fun f hf => by cases hf
def lm_pf15 : List Nat := []
theorem lm_k_pf15 : ∀ f ∈ lm_pf15, lm_ok2 (lm_fpE lm_cl lm_tb15.own f) := fun f hf => by cases hf
def lm_pf16 : List Nat := []
theorem lm_k_pf16 : ∀ f ∈ lm_pf16, lm_ok2 (lm_fpE lm_cl lm_tb16.own f) := fun f hf => by cases hf
def lm_pf17 : List Nat := []
theorem lm_k_pf17 : ∀ f ∈ lm_pf17, lm_ok2 (lm_fpE lm_cl lm_tb17.own f) := fun f hf => by cases hf
