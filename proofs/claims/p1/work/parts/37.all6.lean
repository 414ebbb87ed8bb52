theorem zall6 (x : Int) (h0 : 0 ≤ x) (h9 : x ≤ 127) : ∃ (lo hi : Int) (f : Nat), (lo ≤ x ∧ x ≤ hi) ∧ zOnes (zx zTT true f 15 562 zmL 0 zpL (0, 0, zivr lo hi, [(0, (4, 0, 0))], [], z_o0)) = true := by
  by_cases h : x ≤ 0
  · exact ⟨0, 0, 683, ⟨h0, h⟩, zrn0⟩
  replace h0 : 1 ≤ x := by omega
  clear h
  by_cases h : x ≤ 1
  · exact ⟨1, 1, 300, ⟨h0, h⟩, zrn1⟩
  replace h0 : 2 ≤ x := by omega
  clear h
  by_cases h : x ≤ 2
  · exact ⟨2, 2, 2390, ⟨h0, h⟩, zrn2⟩
  replace h0 : 3 ≤ x := by omega
  clear h
  by_cases h : x ≤ 3
  · exact ⟨3, 3, 300, ⟨h0, h⟩, zrn3⟩
  replace h0 : 4 ≤ x := by omega
  clear h
  by_cases h : x ≤ 4
  · exact ⟨4, 4, 300, ⟨h0, h⟩, zrn4⟩
  replace h0 : 5 ≤ x := by omega
  clear h
  by_cases h : x ≤ 5
  · exact ⟨5, 5, 300, ⟨h0, h⟩, zrn5⟩
  replace h0 : 6 ≤ x := by omega
  clear h
  by_cases h : x ≤ 6
  · exact ⟨6, 6, 300, ⟨h0, h⟩, zrn6⟩
  replace h0 : 7 ≤ x := by omega
  clear h
  by_cases h : x ≤ 7
  · exact ⟨7, 7, 300, ⟨h0, h⟩, zrn7⟩
  replace h0 : 8 ≤ x := by omega
  clear h
  by_cases h : x ≤ 8
  · exact ⟨8, 8, 1111, ⟨h0, h⟩, zrn8⟩
  replace h0 : 9 ≤ x := by omega
  clear h
  by_cases h : x ≤ 9
  · exact ⟨9, 9, 1111, ⟨h0, h⟩, zrn9⟩
  replace h0 : 10 ≤ x := by omega
  clear h
  by_cases h : x ≤ 10
  · exact ⟨10, 10, 1101, ⟨h0, h⟩, zrn10⟩
  replace h0 : 11 ≤ x := by omega
  clear h
  by_cases h : x ≤ 11
  · exact ⟨11, 11, 1111, ⟨h0, h⟩, zrn11⟩
  replace h0 : 12 ≤ x := by omega
  clear h
  by_cases h : x ≤ 12
  · exact ⟨12, 12, 1101, ⟨h0, h⟩, zrn12⟩
  replace h0 : 13 ≤ x := by omega
  clear h
  by_cases h : x ≤ 13
  · exact ⟨13, 13, 1101, ⟨h0, h⟩, zrn13⟩
  replace h0 : 14 ≤ x := by omega
  clear h
  by_cases h : x ≤ 14
  · exact ⟨14, 14, 1101, ⟨h0, h⟩, zrn14⟩
  replace h0 : 15 ≤ x := by omega
  clear h
  by_cases h : x ≤ 15
  · exact ⟨15, 15, 1101, ⟨h0, h⟩, zrn15⟩
  replace h0 : 16 ≤ x := by omega
  clear h
  by_cases h : x ≤ 16
  · exact ⟨16, 16, 1087, ⟨h0, h⟩, zrn16⟩
  replace h0 : 17 ≤ x := by omega
  clear h
  by_cases h : x ≤ 17
  · exact ⟨17, 17, 1101, ⟨h0, h⟩, zrn17⟩
  replace h0 : 18 ≤ x := by omega
  clear h
  by_cases h : x ≤ 18
  · exact ⟨18, 18, 1111, ⟨h0, h⟩, zrn18⟩
  replace h0 : 19 ≤ x := by omega
  clear h
  by_cases h : x ≤ 19
  · exact ⟨19, 19, 1111, ⟨h0, h⟩, zrn19⟩
  replace h0 : 20 ≤ x := by omega
  clear h
  by_cases h : x ≤ 20
  · exact ⟨20, 20, 1101, ⟨h0, h⟩, zrn20⟩
  replace h0 : 21 ≤ x := by omega
  clear h
  by_cases h : x ≤ 21
  · exact ⟨21, 21, 1101, ⟨h0, h⟩, zrn21⟩
  replace h0 : 22 ≤ x := by omega
  clear h
  by_cases h : x ≤ 22
  · exact ⟨22, 22, 1101, ⟨h0, h⟩, zrn22⟩
  replace h0 : 23 ≤ x := by omega
  clear h
  by_cases h : x ≤ 23
  · exact ⟨23, 23, 1101, ⟨h0, h⟩, zrn23⟩
  replace h0 : 24 ≤ x := by omega
  clear h
  by_cases h : x ≤ 24
  · exact ⟨24, 24, 1121, ⟨h0, h⟩, zrn24⟩
  replace h0 : 25 ≤ x := by omega
  clear h
  by_cases h : x ≤ 25
  · exact ⟨25, 25, 1107, ⟨h0, h⟩, zrn25⟩
  replace h0 : 26 ≤ x := by omega
  clear h
  by_cases h : x ≤ 26
  · exact ⟨26, 26, 1101, ⟨h0, h⟩, zrn26⟩
  replace h0 : 27 ≤ x := by omega
  clear h
  by_cases h : x ≤ 27
  · exact ⟨27, 27, 1101, ⟨h0, h⟩, zrn27⟩
  replace h0 : 28 ≤ x := by omega
  clear h
  by_cases h : x ≤ 28
  · exact ⟨28, 28, 1101, ⟨h0, h⟩, zrn28⟩
  replace h0 : 29 ≤ x := by omega
  clear h
  by_cases h : x ≤ 29
  · exact ⟨29, 29, 1101, ⟨h0, h⟩, zrn29⟩
  replace h0 : 30 ≤ x := by omega
  clear h
  by_cases h : x ≤ 30
  · exact ⟨30, 30, 1111, ⟨h0, h⟩, zrn30⟩
  replace h0 : 31 ≤ x := by omega
  clear h
  by_cases h : x ≤ 31
  · exact ⟨31, 31, 300, ⟨h0, h⟩, zrn31⟩
  replace h0 : 32 ≤ x := by omega
  clear h
  by_cases h : x ≤ 32
  · exact ⟨32, 32, 300, ⟨h0, h⟩, zrn32⟩
  replace h0 : 33 ≤ x := by omega
  clear h
  by_cases h : x ≤ 33
  · exact ⟨33, 33, 300, ⟨h0, h⟩, zrn33⟩
  replace h0 : 34 ≤ x := by omega
  clear h
  by_cases h : x ≤ 34
  · exact ⟨34, 34, 1087, ⟨h0, h⟩, zrn34⟩
  replace h0 : 35 ≤ x := by omega
  clear h
  by_cases h : x ≤ 35
  · exact ⟨35, 35, 1101, ⟨h0, h⟩, zrn35⟩
  replace h0 : 36 ≤ x := by omega
  clear h
  by_cases h : x ≤ 36
  · exact ⟨36, 36, 1097, ⟨h0, h⟩, zrn36⟩
  replace h0 : 37 ≤ x := by omega
  clear h
  by_cases h : x ≤ 37
  · exact ⟨37, 37, 1087, ⟨h0, h⟩, zrn37⟩
  replace h0 : 38 ≤ x := by omega
  clear h
  by_cases h : x ≤ 38
  · exact ⟨38, 38, 1087, ⟨h0, h⟩, zrn38⟩
  replace h0 : 39 ≤ x := by omega
  clear h
  by_cases h : x ≤ 39
  · exact ⟨39, 39, 300, ⟨h0, h⟩, zrn39⟩
  replace h0 : 40 ≤ x := by omega
  clear h
  by_cases h : x ≤ 40
  · exact ⟨40, 40, 300, ⟨h0, h⟩, zrn40⟩
  replace h0 : 41 ≤ x := by omega
  clear h
  by_cases h : x ≤ 41
  · exact ⟨41, 41, 300, ⟨h0, h⟩, zrn41⟩
  replace h0 : 42 ≤ x := by omega
  clear h
  by_cases h : x ≤ 42
  · exact ⟨42, 42, 300, ⟨h0, h⟩, zrn42⟩
  replace h0 : 43 ≤ x := by omega
  clear h
  by_cases h : x ≤ 43
  · exact ⟨43, 43, 1087, ⟨h0, h⟩, zrn43⟩
  replace h0 : 44 ≤ x := by omega
  clear h
  by_cases h : x ≤ 44
  · exact ⟨44, 44, 1087, ⟨h0, h⟩, zrn44⟩
  replace h0 : 45 ≤ x := by omega
  clear h
  by_cases h : x ≤ 45
  · exact ⟨45, 45, 300, ⟨h0, h⟩, zrn45⟩
  replace h0 : 46 ≤ x := by omega
  clear h
  by_cases h : x ≤ 46
  · exact ⟨46, 46, 300, ⟨h0, h⟩, zrn46⟩
  replace h0 : 47 ≤ x := by omega
  clear h
  by_cases h : x ≤ 47
  · exact ⟨47, 47, 300, ⟨h0, h⟩, zrn47⟩
  replace h0 : 48 ≤ x := by omega
  clear h
  by_cases h : x ≤ 48
  · exact ⟨48, 48, 300, ⟨h0, h⟩, zrn48⟩
  replace h0 : 49 ≤ x := by omega
  clear h
  by_cases h : x ≤ 49
  · exact ⟨49, 49, 300, ⟨h0, h⟩, zrn49⟩
  replace h0 : 50 ≤ x := by omega
  clear h
  by_cases h : x ≤ 50
  · exact ⟨50, 50, 300, ⟨h0, h⟩, zrn50⟩
  replace h0 : 51 ≤ x := by omega
  clear h
  by_cases h : x ≤ 51
  · exact ⟨51, 51, 1097, ⟨h0, h⟩, zrn51⟩
  replace h0 : 52 ≤ x := by omega
  clear h
  by_cases h : x ≤ 52
  · exact ⟨52, 52, 1087, ⟨h0, h⟩, zrn52⟩
  replace h0 : 53 ≤ x := by omega
  clear h
  by_cases h : x ≤ 53
  · exact ⟨53, 53, 1094, ⟨h0, h⟩, zrn53⟩
  replace h0 : 54 ≤ x := by omega
  clear h
  by_cases h : x ≤ 54
  · exact ⟨54, 54, 1104, ⟨h0, h⟩, zrn54⟩
  replace h0 : 55 ≤ x := by omega
  clear h
  by_cases h : x ≤ 55
  · exact ⟨55, 55, 300, ⟨h0, h⟩, zrn55⟩
  replace h0 : 56 ≤ x := by omega
  clear h
  by_cases h : x ≤ 56
  · exact ⟨56, 56, 300, ⟨h0, h⟩, zrn56⟩
  replace h0 : 57 ≤ x := by omega
  clear h
  by_cases h : x ≤ 57
  · exact ⟨57, 57, 300, ⟨h0, h⟩, zrn57⟩
  replace h0 : 58 ≤ x := by omega
  clear h
  by_cases h : x ≤ 58
  · exact ⟨58, 58, 300, ⟨h0, h⟩, zrn58⟩
  replace h0 : 59 ≤ x := by omega
  clear h
  by_cases h : x ≤ 59
  · exact ⟨59, 59, 300, ⟨h0, h⟩, zrn59⟩
  replace h0 : 60 ≤ x := by omega
  clear h
  by_cases h : x ≤ 60
  · exact ⟨60, 60, 300, ⟨h0, h⟩, zrn60⟩
  replace h0 : 61 ≤ x := by omega
  clear h
  by_cases h : x ≤ 61
  · exact ⟨61, 61, 300, ⟨h0, h⟩, zrn61⟩
  replace h0 : 62 ≤ x := by omega
  clear h
  by_cases h : x ≤ 62
  · exact ⟨62, 62, 300, ⟨h0, h⟩, zrn62⟩
  replace h0 : 63 ≤ x := by omega
  clear h
  by_cases h : x ≤ 63
  · exact ⟨63, 63, 300, ⟨h0, h⟩, zrn63⟩
  replace h0 : 64 ≤ x := by omega
  clear h
  by_cases h : x ≤ 64
  · exact ⟨64, 64, 300, ⟨h0, h⟩, zrn64⟩
  replace h0 : 65 ≤ x := by omega
  clear h
  by_cases h : x ≤ 65
  · exact ⟨65, 65, 300, ⟨h0, h⟩, zrn65⟩
  replace h0 : 66 ≤ x := by omega
  clear h
  by_cases h : x ≤ 66
  · exact ⟨66, 66, 300, ⟨h0, h⟩, zrn66⟩
  replace h0 : 67 ≤ x := by omega
  clear h
  by_cases h : x ≤ 67
  · exact ⟨67, 67, 1776, ⟨h0, h⟩, zrn67⟩
  replace h0 : 68 ≤ x := by omega
  clear h
  by_cases h : x ≤ 68
  · exact ⟨68, 68, 300, ⟨h0, h⟩, zrn68⟩
  replace h0 : 69 ≤ x := by omega
  clear h
  by_cases h : x ≤ 69
  · exact ⟨69, 69, 949, ⟨h0, h⟩, zrn69⟩
  replace h0 : 70 ≤ x := by omega
  clear h
  by_cases h : x ≤ 70
  · exact ⟨70, 70, 300, ⟨h0, h⟩, zrn70⟩
  replace h0 : 71 ≤ x := by omega
  clear h
  by_cases h : x ≤ 71
  · exact ⟨71, 71, 300, ⟨h0, h⟩, zrn71⟩
  replace h0 : 72 ≤ x := by omega
  clear h
  exact ⟨72, 127, 300, ⟨h0, h9⟩, zrn72⟩
