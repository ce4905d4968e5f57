/-! The abstract machine: values whose references are places in a list of cells; a method's contract over it. -/
def ac_B : String := "WhatGame$Board"
def af_B : u_T := fun k => match k with
  | _ => ("WhatGame$Board", "ties", "[I", true)
def at_B : Nat → FieldType := fun k => match k with
  | _ => .array .int
theorem an_B : ∀ a, a < 1 → ∀ b, b < 1 → a ≠ b → (af_B a).2.1 ≠ (af_B b).2.1 := by decide +kernel
theorem ao_B : ∀ k, k < 1 → parseFieldDescriptor (af_B k).2.2.1 = some (at_B k) := by decide +kernel
def ac_F : String := "WhatGame$Fitting"
def af_F : u_T := fun k => match k with
  | 0 => ("WhatGame$Fitting", "games", "LWhatGame$Games;", true)
  | 1 => ("WhatGame$Fitting", "board", "LWhatGame$Board;", true)
  | 2 => ("WhatGame$Fitting", "codes", "[I", true)
  | 3 => ("WhatGame$Fitting", "count", "I", false)
  | 4 => ("WhatGame$Fitting", "upTo", "[I", true)
  | 5 => ("WhatGame$Fitting", "endsOf", "[I", true)
  | 6 => ("WhatGame$Fitting", "measured", "[I", true)
  | 7 => ("WhatGame$Fitting", "votes", "[I", true)
  | 8 => ("WhatGame$Fitting", "alike", "[I", true)
  | 9 => ("WhatGame$Fitting", "isKnown", "Z", false)
  | 10 => ("WhatGame$Fitting", "knownTight", "I", false)
  | 11 => ("WhatGame$Fitting", "knownCheatPrice", "I", false)
  | _ => ("WhatGame$Fitting", "knownCheatCode", "I", false)
def at_F : Nat → FieldType := fun k => match k with
  | 0 => .object "WhatGame$Games"
  | 1 => .object "WhatGame$Board"
  | 2 => .array .int
  | 3 => .int
  | 4 => .array .int
  | 5 => .array .int
  | 6 => .array .int
  | 7 => .array .int
  | 8 => .array .int
  | 9 => .boolean
  | 10 => .int
  | 11 => .int
  | _ => .int
theorem an_F : ∀ a, a < 13 → ∀ b, b < 13 → a ≠ b → (af_F a).2.1 ≠ (af_F b).2.1 := by decide +kernel
theorem ao_F : ∀ k, k < 13 → parseFieldDescriptor (af_F k).2.2.1 = some (at_F k) := by decide +kernel
def ac_G : String := "WhatGame$Games"
def af_G : u_T := fun k => match k with
  | 0 => ("WhatGame$Games", "board", "LWhatGame$Board;", true)
  | 1 => ("WhatGame$Games", "starts", "[I", true)
  | 2 => ("WhatGame$Games", "lengths", "[I", true)
  | 3 => ("WhatGame$Games", "outs", "[I", true)
  | 4 => ("WhatGame$Games", "played", "[I", true)
  | _ => ("WhatGame$Games", "count", "I", false)
def at_G : Nat → FieldType := fun k => match k with
  | 0 => .object "WhatGame$Board"
  | 1 => .array .int
  | 2 => .array .int
  | 3 => .array .int
  | 4 => .array .int
  | _ => .int
theorem an_G : ∀ a, a < 6 → ∀ b, b < 6 → a ≠ b → (af_G a).2.1 ≠ (af_G b).2.1 := by decide +kernel
theorem ao_G : ∀ k, k < 6 → parseFieldDescriptor (af_G k).2.2.1 = some (at_G k) := by decide +kernel
def ac_R : String := "WhatGame$Rule"
def af_R : u_T := fun k => match k with
  | 0 => ("WhatGame$Rule", "number", "I", true)
  | 1 => ("WhatGame$Rule", "code", "I", true)
  | 2 => ("WhatGame$Rule", "kind", "I", true)
  | 3 => ("WhatGame$Rule", "cost", "I", true)
  | _ => ("WhatGame$Rule", "ran", "[I", true)
def at_R : Nat → FieldType := fun k => match k with
  | 0 => .int
  | 1 => .int
  | 2 => .int
  | 3 => .int
  | _ => .array .int
theorem an_R : ∀ a, a < 5 → ∀ b, b < 5 → a ≠ b → (af_R a).2.1 ≠ (af_R b).2.1 := by decide +kernel
theorem ao_R : ∀ k, k < 5 → parseFieldDescriptor (af_R k).2.2.1 = some (at_R k) := by decide +kernel
def ac_W : String := "WhatGame"
def af_W : u_T := fun k => match k with
  | 0 => ("WhatGame", "held", "[I", true)
  | 1 => ("WhatGame", "sizes", "[I", true)
  | 2 => ("WhatGame", "rows", "[[J", true)
  | 3 => ("WhatGame", "rules", "[LWhatGame$Rule;", true)
  | 4 => ("WhatGame", "ruleCount", "I", false)
  | 5 => ("WhatGame", "latestFault", "I", false)
  | 6 => ("WhatGame", "ran", "[I", true)
  | 7 => ("WhatGame", "fitting", "LWhatGame$Fitting;", true)
  | 8 => ("WhatGame", "games", "LWhatGame$Games;", true)
  | 9 => ("WhatGame", "board", "LWhatGame$Board;", true)
  | 10 => ("WhatGame", "now", "I", false)
  | 11 => ("WhatGame", "refused", "[I", true)
  | 12 => ("WhatGame", "imaged", "Z", false)
  | 13 => ("WhatGame", "imageTies", "[I", true)
  | 14 => ("WhatGame", "imageNow", "I", false)
  | 15 => ("WhatGame", "imageRules", "I", false)
  | _ => ("WhatGame", "imageGames", "I", false)
def at_W : Nat → FieldType := fun k => match k with
  | 0 => .array .int
  | 1 => .array .int
  | 2 => .array (.array .long)
  | 3 => .array (.object "WhatGame$Rule")
  | 4 => .int
  | 5 => .int
  | 6 => .array .int
  | 7 => .object "WhatGame$Fitting"
  | 8 => .object "WhatGame$Games"
  | 9 => .object "WhatGame$Board"
  | 10 => .int
  | 11 => .array .int
  | 12 => .boolean
  | 13 => .array .int
  | 14 => .int
  | 15 => .int
  | _ => .int
theorem an_W : ∀ a, a < 17 → ∀ b, b < 17 → a ≠ b → (af_W a).2.1 ≠ (af_W b).2.1 := by decide +kernel
theorem ao_W : ∀ k, k < 17 → parseFieldDescriptor (af_W k).2.2.1 = some (at_W k) := by decide +kernel
def ac_M : String := "WhatGameModel"
def af_M : u_T := fun k => match k with
  | 0 => ("WhatGameModel", "rules", "I", false)
  | 1 => ("WhatGameModel", "games", "I", false)
  | 2 => ("WhatGameModel", "fault", "I", false)
  | 3 => ("WhatGameModel", "own", "I", false)
  | 4 => ("WhatGameModel", "other", "I", false)
  | 5 => ("WhatGameModel", "turn", "I", false)
  | 6 => ("WhatGameModel", "refused", "[I", true)
  | 7 => ("WhatGameModel", "tie", "[I", true)
  | 8 => ("WhatGameModel", "code", "[I", true)
  | 9 => ("WhatGameModel", "start", "[I", true)
  | 10 => ("WhatGameModel", "moves", "[I", true)
  | 11 => ("WhatGameModel", "count", "[I", true)
  | 12 => ("WhatGameModel", "out", "[I", true)
  | 13 => ("WhatGameModel", "held", "[I", true)
  | 14 => ("WhatGameModel", "sort", "[I", true)
  | 15 => ("WhatGameModel", "size", "[I", true)
  | 16 => ("WhatGameModel", "shown", "[I", true)
  | 17 => ("WhatGameModel", "cells", "[J", true)
  | 18 => ("WhatGameModel", "carried", "[J", true)
  | 19 => ("WhatGameModel", "base", "I", false)
  | 20 => ("WhatGameModel", "at", "I", false)
  | 21 => ("WhatGameModel", "end", "I", false)
  | 22 => ("WhatGameModel", "wrongAt", "I", false)
  | 23 => ("WhatGameModel", "read", "I", false)
  | 24 => ("WhatGameModel", "nextMine", "I", false)
  | 25 => ("WhatGameModel", "nextIts", "I", false)
  | 26 => ("WhatGameModel", "list", "[I", true)
  | 27 => ("WhatGameModel", "gameMine", "I", false)
  | 28 => ("WhatGameModel", "gameIts", "I", false)
  | 29 => ("WhatGameModel", "fitting", "[I", true)
  | 30 => ("WhatGameModel", "faulty", "[I", true)
  | 31 => ("WhatGameModel", "fitN", "I", false)
  | 32 => ("WhatGameModel", "faultyKept", "I", false)
  | 33 => ("WhatGameModel", "tightKept", "I", false)
  | 34 => ("WhatGameModel", "let", "[I", true)
  | 35 => ("WhatGameModel", "becomes", "[I", true)
  | 36 => ("WhatGameModel", "trace", "[I", true)
  | 37 => ("WhatGameModel", "ran", "I", false)
  | 38 => ("WhatGameModel", "iGames", "I", false)
  | 39 => ("WhatGameModel", "iRules", "I", false)
  | 40 => ("WhatGameModel", "iOwn", "I", false)
  | 41 => ("WhatGameModel", "iOther", "I", false)
  | 42 => ("WhatGameModel", "iTurn", "I", false)
  | _ => ("WhatGameModel", "kept", "[I", true)
def at_M : Nat → FieldType := fun k => match k with
  | 0 => .int
  | 1 => .int
  | 2 => .int
  | 3 => .int
  | 4 => .int
  | 5 => .int
  | 6 => .array .int
  | 7 => .array .int
  | 8 => .array .int
  | 9 => .array .int
  | 10 => .array .int
  | 11 => .array .int
  | 12 => .array .int
  | 13 => .array .int
  | 14 => .array .int
  | 15 => .array .int
  | 16 => .array .int
  | 17 => .array .long
  | 18 => .array .long
  | 19 => .int
  | 20 => .int
  | 21 => .int
  | 22 => .int
  | 23 => .int
  | 24 => .int
  | 25 => .int
  | 26 => .array .int
  | 27 => .int
  | 28 => .int
  | 29 => .array .int
  | 30 => .array .int
  | 31 => .int
  | 32 => .int
  | 33 => .int
  | 34 => .array .int
  | 35 => .array .int
  | 36 => .array .int
  | 37 => .int
  | 38 => .int
  | 39 => .int
  | 40 => .int
  | 41 => .int
  | 42 => .int
  | _ => .array .int
theorem an_M : ∀ a, a < 44 → ∀ b, b < 44 → a ≠ b → (af_M a).2.1 ≠ (af_M b).2.1 := by decide +kernel
theorem ao_M : ∀ k, k < 44 → parseFieldDescriptor (af_M k).2.2.1 = some (at_M k) := by decide +kernel
abbrev ab_cl : List vw_C := [(ac_B, af_B, 1), (ac_F, af_F, 13), (ac_G, af_G, 6), (ac_R, af_R, 5), (ac_W, af_W, 17), (ac_M, af_M, 44)]
def ab_nf (ci : Nat) : Nat := match ci with
  | 0 => 1
  | 1 => 13
  | 2 => 6
  | 3 => 5
  | 4 => 17
  | _ => 44
def ab_ft (ci : Nat) : Nat → FieldType := match ci with
  | 0 => at_B
  | 1 => at_F
  | 2 => at_G
  | 3 => at_R
  | 4 => at_W
  | _ => at_M
def ab_fn (ci : Nat) : u_T := match ci with
  | 0 => af_B
  | 1 => af_F
  | 2 => af_G
  | 3 => af_R
  | 4 => af_W
  | _ => af_M
def ab_cn (ci : Nat) : String := match ci with
  | 0 => ac_B
  | 1 => ac_F
  | 2 => ac_G
  | 3 => ac_R
  | 4 => ac_W
  | _ => ac_M
def ab_isN (w : Cond) : Bool := match w with
  | .fieldLinkNest .. => true
  | .methodLinkNest .. => true
  | _ => false
def ab_T2 : List Cond := lw_tbl.filter ab_isN
def ab_T : List Cond := lw_tbl.filter goodWord
theorem ab_w {w : Cond} (i : Nat) (h : lw_tbl[i]? = some w) (hg : goodWord w = true) : w ∈ ab_T := List.mem_filter.mpr ⟨List.mem_of_getElem? h, hg⟩
theorem ab_w1 {w : Cond} (i : Nat) (h : tables_1_1[i]? = some w) (hg : goodWord w = true) : w ∈ ab_T := List.mem_filter.mpr ⟨List.mem_append_right _ (List.mem_append_left _ (List.mem_of_getElem? h)), hg⟩
theorem ab_n1 {w : Cond} (i : Nat) (h : tables_1_1[i]? = some w) (hg : ab_isN w = true) : w ∈ ab_T2 := List.mem_filter.mpr ⟨List.mem_append_right _ (List.mem_append_left _ (List.mem_of_getElem? h)), hg⟩
theorem ab_w2 {w : Cond} (i : Nat) (h : tables_1_2[i]? = some w) (hg : goodWord w = true) : w ∈ ab_T := List.mem_filter.mpr ⟨List.mem_append_right _ (List.mem_append_right _ <| List.mem_append_left _ (List.mem_of_getElem? h)), hg⟩
theorem ab_n2 {w : Cond} (i : Nat) (h : tables_1_2[i]? = some w) (hg : ab_isN w = true) : w ∈ ab_T2 := List.mem_filter.mpr ⟨List.mem_append_right _ (List.mem_append_right _ <| List.mem_append_left _ (List.mem_of_getElem? h)), hg⟩
theorem ab_w3 {w : Cond} (i : Nat) (h : tables_1_3[i]? = some w) (hg : goodWord w = true) : w ∈ ab_T := List.mem_filter.mpr ⟨List.mem_append_right _ (List.mem_append_right _ <| List.mem_append_right _ <| List.mem_append_left _ (List.mem_of_getElem? h)), hg⟩
theorem ab_n3 {w : Cond} (i : Nat) (h : tables_1_3[i]? = some w) (hg : ab_isN w = true) : w ∈ ab_T2 := List.mem_filter.mpr ⟨List.mem_append_right _ (List.mem_append_right _ <| List.mem_append_right _ <| List.mem_append_left _ (List.mem_of_getElem? h)), hg⟩
theorem ab_w4 {w : Cond} (i : Nat) (h : tables_1_4[i]? = some w) (hg : goodWord w = true) : w ∈ ab_T := List.mem_filter.mpr ⟨List.mem_append_right _ (List.mem_append_right _ <| List.mem_append_right _ <| List.mem_append_right _ <| List.mem_append_left _ (List.mem_of_getElem? h)), hg⟩
theorem ab_n4 {w : Cond} (i : Nat) (h : tables_1_4[i]? = some w) (hg : ab_isN w = true) : w ∈ ab_T2 := List.mem_filter.mpr ⟨List.mem_append_right _ (List.mem_append_right _ <| List.mem_append_right _ <| List.mem_append_right _ <| List.mem_append_left _ (List.mem_of_getElem? h)), hg⟩
theorem ab_w5 {w : Cond} (i : Nat) (h : tables_1_5[i]? = some w) (hg : goodWord w = true) : w ∈ ab_T := List.mem_filter.mpr ⟨List.mem_append_right _ (List.mem_append_right _ <| List.mem_append_right _ <| List.mem_append_right _ <| List.mem_append_right _ <| List.mem_append_left _ (List.mem_of_getElem? h)), hg⟩
theorem ab_n5 {w : Cond} (i : Nat) (h : tables_1_5[i]? = some w) (hg : ab_isN w = true) : w ∈ ab_T2 := List.mem_filter.mpr ⟨List.mem_append_right _ (List.mem_append_right _ <| List.mem_append_right _ <| List.mem_append_right _ <| List.mem_append_right _ <| List.mem_append_left _ (List.mem_of_getElem? h)), hg⟩
theorem ab_w6 {w : Cond} (i : Nat) (h : tables_1_6[i]? = some w) (hg : goodWord w = true) : w ∈ ab_T := List.mem_filter.mpr ⟨List.mem_append_right _ (List.mem_append_right _ <| List.mem_append_right _ <| List.mem_append_right _ <| List.mem_append_right _ <| List.mem_append_right _ (List.mem_of_getElem? h)), hg⟩
theorem ab_n6 {w : Cond} (i : Nat) (h : tables_1_6[i]? = some w) (hg : ab_isN w = true) : w ∈ ab_T2 := List.mem_filter.mpr ⟨List.mem_append_right _ (List.mem_append_right _ <| List.mem_append_right _ <| List.mem_append_right _ <| List.mem_append_right _ <| List.mem_append_right _ (List.mem_of_getElem? h)), hg⟩
theorem ab_wp {w : Cond} (i : Nat) (h : (k2_sels lw_privs)[i]? = some w) (hg : goodWord w = true) : w ∈ ab_T := List.mem_filter.mpr ⟨List.mem_append_left _ (List.mem_of_getElem? h), hg⟩
theorem ab_T_good : GoodIn lw_tbl ab_T := fun _ h => ⟨(List.mem_filter.mp h).1, good_of_word (List.mem_filter.mp h).2⟩
theorem ab_T_self : GoodIn ab_T ab_T := fun _ h => ⟨h, good_of_word (List.mem_filter.mp h).2⟩
set_option maxRecDepth 20000 in
theorem ai_B : ∀ w ∈ u_ws ac_B af_B 1, w ∈ ab_T := by
  have h : u_ws ac_B af_B 1 = ([128] : List Nat).filterMap (fun i => lw_tbl[i]?) := by decide +kernel
  have h2 : (u_ws ac_B af_B 1).all goodWord = true := by decide +kernel
  intro w hw
  have hg := List.all_eq_true.mp h2 w hw
  rw [h] at hw
  obtain ⟨i, -, hi⟩ := List.mem_filterMap.mp hw
  exact ab_w i hi hg
set_option maxRecDepth 20000 in
theorem ai_F : ∀ w ∈ u_ws ac_F af_F 13, w ∈ ab_T := by
  have h : u_ws ac_F af_F 13 = ([175, 177, 179, 181, 183, 185, 187, 189, 191, 193, 195, 197, 199] : List Nat).filterMap (fun i => lw_tbl[i]?) := by decide +kernel
  have h2 : (u_ws ac_F af_F 13).all goodWord = true := by decide +kernel
  intro w hw
  have hg := List.all_eq_true.mp h2 w hw
  rw [h] at hw
  obtain ⟨i, -, hi⟩ := List.mem_filterMap.mp hw
  exact ab_w i hi hg
set_option maxRecDepth 20000 in
theorem ai_G : ∀ w ∈ u_ws ac_G af_G 6, w ∈ ab_T := by
  have h : u_ws ac_G af_G 6 = ([146, 148, 150, 152, 154, 156] : List Nat).filterMap (fun i => lw_tbl[i]?) := by decide +kernel
  have h2 : (u_ws ac_G af_G 6).all goodWord = true := by decide +kernel
  intro w hw
  have hg := List.all_eq_true.mp h2 w hw
  rw [h] at hw
  obtain ⟨i, -, hi⟩ := List.mem_filterMap.mp hw
  exact ab_w i hi hg
set_option maxRecDepth 20000 in
theorem ai_R : ∀ w ∈ u_ws ac_R af_R 5, w ∈ ab_T := by
  have h : u_ws ac_R af_R 5 = ([447, 449, 451, 453, 455] : List Nat).filterMap (fun i => lw_tbl[i]?) := by decide +kernel
  have h2 : (u_ws ac_R af_R 5).all goodWord = true := by decide +kernel
  intro w hw
  have hg := List.all_eq_true.mp h2 w hw
  rw [h] at hw
  obtain ⟨i, -, hi⟩ := List.mem_filterMap.mp hw
  exact ab_w i hi hg
set_option maxRecDepth 20000 in
theorem ai_W : ∀ w ∈ u_ws ac_W af_W 17, w ∈ ab_T := by
  have h : u_ws ac_W af_W 17 = ([222, 224, 226, 228, 230, 232, 234, 236, 238, 240, 242, 244, 246, 248, 250, 252, 254] : List Nat).filterMap (fun i => lw_tbl[i]?) := by decide +kernel
  have h2 : (u_ws ac_W af_W 17).all goodWord = true := by decide +kernel
  intro w hw
  have hg := List.all_eq_true.mp h2 w hw
  rw [h] at hw
  obtain ⟨i, -, hi⟩ := List.mem_filterMap.mp hw
  exact ab_w i hi hg
set_option maxRecDepth 20000 in
theorem ai_M : ∀ w ∈ u_ws ac_M af_M 44, w ∈ ab_T := by
  have h : u_ws ac_M af_M 44 = ([921, 923, 925, 927, 929, 931, 933, 935, 937, 939, 941, 943, 945, 947, 949, 951, 953, 955, 957, 959, 961, 963, 965, 967, 969, 971, 973, 975, 977, 979, 981, 983, 985, 987, 989, 991, 993, 995, 997, 999, 1001, 1003, 1005, 1007] : List Nat).filterMap (fun i => lw_tbl[i]?) := by decide +kernel
  have h2 : (u_ws ac_M af_M 44).all goodWord = true := by decide +kernel
  intro w hw
  have hg := List.all_eq_true.mp h2 w hw
  rw [h] at hw
  obtain ⟨i, -, hi⟩ := List.mem_filterMap.mp hw
  exact ab_w i hi hg
theorem ab_ai (ci : Nat) (h : ci < 6) : ∀ w ∈ u_ws (ab_cn ci) (ab_fn ci) (ab_nf ci), w ∈ ab_T := by
  match ci, h with
  | 0, _ => exact ai_B
  | 1, _ => exact ai_F
  | 2, _ => exact ai_G
  | 3, _ => exact ai_R
  | 4, _ => exact ai_W
  | 5, _ => exact ai_M
theorem ab_an (ci : Nat) (h : ci < 6) : ∀ a, a < ab_nf ci → ∀ b, b < ab_nf ci → a ≠ b → (ab_fn ci a).2.1 ≠ (ab_fn ci b).2.1 := by
  match ci, h with
  | 0, _ => exact an_B
  | 1, _ => exact an_F
  | 2, _ => exact an_G
  | 3, _ => exact an_R
  | 4, _ => exact an_W
  | 5, _ => exact an_M
theorem ab_ao (ci : Nat) (h : ci < 6) : ∀ k, k < ab_nf ci → parseFieldDescriptor (ab_fn ci k).2.2.1 = some (ab_ft ci k) := by
  match ci, h with
  | 0, _ => exact ao_B
  | 1, _ => exact ao_F
  | 2, _ => exact ao_G
  | 3, _ => exact ao_R
  | 4, _ => exact ao_W
  | 5, _ => exact ao_M
theorem ab_acl (ci : Nat) (h : ci < 6) : ab_cl[ci]? = some (ab_cn ci, ab_fn ci, ab_nf ci) := by
  match ci, h with
  | 0, _ => rfl
  | 1, _ => rfl
  | 2, _ => rfl
  | 3, _ => rfl
  | 4, _ => rfl
  | 5, _ => rfl
