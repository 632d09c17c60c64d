theorem tg_feel (σ : Sg) (x y w : Int32) : x_X5_feel σ 0 x y w = 0 ∨ x_X5_feel σ 0 x y w = 1 ∨ x_X5_feel σ 0 x y w = 2 ∨ x_X5_feel σ 0 x y w = 3 := by
  unfold x_X5_feel
  try unfold x_X5_snailNumbered
  try unfold x_X5_demandState
  try unfold x_X5_demandRoom
  try unfold x_X5_demandValidText
  repeat' split
  all_goals first | omega | simp
theorem tg_crawl (σ : Sg) (x y : Int32) : x_X5_crawl σ 0 x y = 0 ∨ x_X5_crawl σ 0 x y = 1 ∨ x_X5_crawl σ 0 x y = 2 ∨ x_X5_crawl σ 0 x y = 3 := by
  unfold x_X5_crawl
  try unfold x_X5_snailNumbered
  try unfold x_X5_demandState
  try unfold x_X5_demandRoom
  try unfold x_X5_demandValidText
  repeat' split
  all_goals first | omega | simp
theorem tg_meetMark (σ : Sg) (x : Int32) : x_X5_meetMark σ 0 x = 0 ∨ x_X5_meetMark σ 0 x = 1 := by
  unfold x_X5_meetMark
  try unfold x_X5_snailNumbered
  try unfold x_X5_demandState
  try unfold x_X5_demandRoom
  try unfold x_X5_demandValidText
  repeat' split
  all_goals first | omega | simp
theorem tg_goBack (σ : Sg) (x y : Int32) : x_X5_goBack σ 0 x y = 0 ∨ x_X5_goBack σ 0 x y = 1 ∨ x_X5_goBack σ 0 x y = 2 ∨ x_X5_goBack σ 0 x y = 3 := by
  unfold x_X5_goBack
  try unfold x_X5_snailNumbered
  try unfold x_X5_demandState
  try unfold x_X5_demandRoom
  try unfold x_X5_demandValidText
  repeat' split
  all_goals first | omega | simp
theorem tg_setRule (σ : Sg) (x : Int32) : x_X5_setRule σ 0 x = 0 ∨ x_X5_setRule σ 0 x = 2 := by
  unfold x_X5_setRule
  try unfold x_X5_snailNumbered
  try unfold x_X5_demandState
  try unfold x_X5_demandRoom
  try unfold x_X5_demandValidText
  repeat' split
  all_goals first | omega | simp
theorem tg_setCounts (σ : Sg) (x : Int32) : x_X5_setCounts σ 0 x = 0 ∨ x_X5_setCounts σ 0 x = 2 := by
  unfold x_X5_setCounts
  try unfold x_X5_snailNumbered
  try unfold x_X5_demandState
  try unfold x_X5_demandRoom
  try unfold x_X5_demandValidText
  repeat' split
  all_goals first | omega | simp
theorem tg_type (σ : Sg) (x : Int32) : x_X5_type σ 0 x = 0 ∨ x_X5_type σ 0 x = 3 := by
  unfold x_X5_type
  try unfold x_X5_snailNumbered
  try unfold x_X5_demandState
  try unfold x_X5_demandRoom
  try unfold x_X5_demandValidText
  repeat' split
  all_goals first | omega | simp
theorem tg_impossibleOrder (σ : Sg) : x_X5_impossibleOrder σ 0 = 0 ∨ x_X5_impossibleOrder σ 0 = 3 := by
  unfold x_X5_impossibleOrder
  try unfold x_X5_snailNumbered
  try unfold x_X5_demandState
  try unfold x_X5_demandRoom
  try unfold x_X5_demandValidText
  repeat' split
  all_goals first | omega | simp
theorem tg_carryOut (σ : Sg) : x_X5_carryOut σ 0 = 0 ∨ x_X5_carryOut σ 0 = 3 := by
  unfold x_X5_carryOut
  try unfold x_X5_snailNumbered
  try unfold x_X5_demandState
  try unfold x_X5_demandRoom
  try unfold x_X5_demandValidText
  repeat' split
  all_goals first | omega | simp
theorem tg_undo (σ : Sg) : x_X5_undo σ 0 = 0 ∨ x_X5_undo σ 0 = 3 := by
  unfold x_X5_undo
  try unfold x_X5_snailNumbered
  try unfold x_X5_demandState
  try unfold x_X5_demandRoom
  try unfold x_X5_demandValidText
  repeat' split
  all_goals first | omega | simp
theorem tg_restoreSnapshot (σ : Sg) : x_X5_restoreSnapshot σ 0 = 0 ∨ x_X5_restoreSnapshot σ 0 = 3 := by
  unfold x_X5_restoreSnapshot
  try unfold x_X5_snailNumbered
  try unfold x_X5_demandState
  try unfold x_X5_demandRoom
  try unfold x_X5_demandValidText
  repeat' split
  all_goals first | omega | simp
theorem tg_stepTo (σ : Sg) (x y : Int32) : x_X5_stepTo σ 0 x y = 0 ∨ x_X5_stepTo σ 0 x y = 1 ∨ x_X5_stepTo σ 0 x y = 2 := by
  unfold x_X5_stepTo
  try unfold x_X5_snailNumbered
  try unfold x_X5_demandState
  try unfold x_X5_demandRoom
  try unfold x_X5_demandValidText
  repeat' split
  all_goals first | omega | simp
theorem tg_loggedStep (σ : Sg) (x y : Int32) : x_X5_loggedStep σ 0 x y = 0 ∨ x_X5_loggedStep σ 0 x y = 1 := by
  unfold x_X5_loggedStep
  try unfold x_X5_snailNumbered
  try unfold x_X5_demandState
  try unfold x_X5_demandRoom
  try unfold x_X5_demandValidText
  repeat' split
  all_goals first | omega | simp
theorem tg_stateOf (σ : Sg) (x : Int32) : x_X5_stateOf σ 0 x = 0 ∨ x_X5_stateOf σ 0 x = 1 := by
  unfold x_X5_stateOf
  try unfold x_X5_snailNumbered
  try unfold x_X5_demandState
  try unfold x_X5_demandRoom
  try unfold x_X5_demandValidText
  repeat' split
  all_goals first | omega | simp
theorem tg_positionOf (σ : Sg) (x : Int32) : x_X5_positionOf σ 0 x = 0 ∨ x_X5_positionOf σ 0 x = 1 := by
  unfold x_X5_positionOf
  try unfold x_X5_snailNumbered
  try unfold x_X5_demandState
  try unfold x_X5_demandRoom
  try unfold x_X5_demandValidText
  repeat' split
  all_goals first | omega | simp
theorem tg_positionByTracks (σ : Sg) (x : Int32) : x_X5_positionByTracks σ 0 x = 0 ∨ x_X5_positionByTracks σ 0 x = 1 := by
  unfold x_X5_positionByTracks
  try unfold x_X5_snailNumbered
  try unfold x_X5_demandState
  try unfold x_X5_demandRoom
  try unfold x_X5_demandValidText
  repeat' split
  all_goals first | omega | simp
theorem tg_turnsOf (σ : Sg) (x : Int32) : x_X5_turnsOf σ 0 x = 0 ∨ x_X5_turnsOf σ 0 x = 1 := by
  unfold x_X5_turnsOf
  try unfold x_X5_snailNumbered
  try unfold x_X5_demandState
  try unfold x_X5_demandRoom
  try unfold x_X5_demandValidText
  repeat' split
  all_goals first | omega | simp
theorem tg_placeOf (σ : Sg) (x : Int32) : x_X5_placeOf σ 0 x = 0 ∨ x_X5_placeOf σ 0 x = 1 := by
  unfold x_X5_placeOf
  try unfold x_X5_snailNumbered
  try unfold x_X5_demandState
  try unfold x_X5_demandRoom
  try unfold x_X5_demandValidText
  repeat' split
  all_goals first | omega | simp
theorem tg_directionOf (σ : Sg) (x : Int32) : x_X5_directionOf σ 0 x = 0 ∨ x_X5_directionOf σ 0 x = 1 := by
  unfold x_X5_directionOf
  try unfold x_X5_snailNumbered
  try unfold x_X5_demandState
  try unfold x_X5_demandRoom
  try unfold x_X5_demandValidText
  repeat' split
  all_goals first | omega | simp
theorem tg_countOfA (σ : Sg) (x : Int32) : x_X5_countOfA σ 0 x = 0 ∨ x_X5_countOfA σ 0 x = 1 := by
  unfold x_X5_countOfA
  try unfold x_X5_snailNumbered
  try unfold x_X5_demandState
  try unfold x_X5_demandRoom
  try unfold x_X5_demandValidText
  repeat' split
  all_goals first | omega | simp
theorem tg_logLength (σ : Sg) (x : Int32) : x_X5_logLength σ 0 x = 0 ∨ x_X5_logLength σ 0 x = 1 := by
  unfold x_X5_logLength
  try unfold x_X5_snailNumbered
  try unfold x_X5_demandState
  try unfold x_X5_demandRoom
  try unfold x_X5_demandValidText
  repeat' split
  all_goals first | omega | simp
theorem tg_speedOf (σ : Sg) (x : Int32) : x_X5_speedOf σ 0 x = 0 ∨ x_X5_speedOf σ 0 x = 1 := by
  unfold x_X5_speedOf
  try unfold x_X5_snailNumbered
  try unfold x_X5_demandState
  try unfold x_X5_demandRoom
  try unfold x_X5_demandValidText
  repeat' split
  all_goals first | omega | simp
theorem tg_errorsOf (σ : Sg) (x : Int32) : x_X5_errorsOf σ 0 x = 0 ∨ x_X5_errorsOf σ 0 x = 1 := by
  unfold x_X5_errorsOf
  try unfold x_X5_snailNumbered
  try unfold x_X5_demandState
  try unfold x_X5_demandRoom
  try unfold x_X5_demandValidText
  repeat' split
  all_goals first | omega | simp
theorem tg_slipsOf (σ : Sg) (x : Int32) : x_X5_slipsOf σ 0 x = 0 ∨ x_X5_slipsOf σ 0 x = 1 := by
  unfold x_X5_slipsOf
  try unfold x_X5_snailNumbered
  try unfold x_X5_demandState
  try unfold x_X5_demandRoom
  try unfold x_X5_demandValidText
  repeat' split
  all_goals first | omega | simp
theorem tg_distanceOf (σ : Sg) (x : Int32) : x_X5_distanceOf σ 0 x = 0 ∨ x_X5_distanceOf σ 0 x = 1 := by
  unfold x_X5_distanceOf
  try unfold x_X5_snailNumbered
  try unfold x_X5_demandState
  try unfold x_X5_demandRoom
  try unfold x_X5_demandValidText
  repeat' split
  all_goals first | omega | simp
theorem tg_ticksOf (σ : Sg) (x : Int32) : x_X5_ticksOf σ 0 x = 0 ∨ x_X5_ticksOf σ 0 x = 1 := by
  unfold x_X5_ticksOf
  try unfold x_X5_snailNumbered
  try unfold x_X5_demandState
  try unfold x_X5_demandRoom
  try unfold x_X5_demandValidText
  repeat' split
  all_goals first | omega | simp
