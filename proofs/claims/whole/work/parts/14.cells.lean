/-! the cells: shapes behind the constructors, names -/
abbrev o_F : Nat := 0
abbrev o_Ac : Nat := 1
abbrev ac_tables : Nat := 2
abbrev ac_changed : Nat := 3
abbrev ac_kept : Nat := 4
abbrev o_Ho : Nat := 5
abbrev t_pieces : Nat := 6
abbrev q_pieces : Nat := 7
abbrev t_ways : Nat := 8
abbrev q_ways : Nat := 9
abbrev t_fires : Nat := 10
abbrev q_fires : Nat := 11
abbrev t_fans : Nat := 12
abbrev q_fans : Nat := 13
abbrev t_sets : Nat := 14
abbrev q_sets : Nat := 15
abbrev t_groups : Nat := 16
abbrev q_groups : Nat := 17
abbrev t_doors : Nat := 18
abbrev q_doors : Nat := 19
abbrev t_drills : Nat := 20
abbrev q_drills : Nat := 21
abbrev t_readings : Nat := 22
abbrev q_readings : Nat := 23
abbrev t_dials : Nat := 24
abbrev q_dials : Nat := 25
abbrev o_Sm : Nat := 26
abbrev sm_above : Nat := 27
abbrev sm_mixed : Nat := 28
abbrev sm_airs : Nat := 29
abbrev sm_totals : Nat := 30
abbrev sm_lost : Nat := 31
abbrev sm_turned : Nat := 32
abbrev sm_turnedFrom : Nat := 33
abbrev sm_shares : Nat := 34
abbrev sm_leftAbove : Nat := 35
abbrev sm_leftMixed : Nat := 36
abbrev o_Es : Nat := 37
abbrev o_Ne : Nat := 38
abbrev ne_heads : Nat := 39
abbrev ne_pointers : Nat := 40
abbrev ne_path : Nat := 41
abbrev ne_seen : Nat := 42
abbrev ne_later : Nat := 43
abbrev ne_ends : Nat := 44
abbrev ne_free : Nat := 45
abbrev o_Wa : Nat := 46
abbrev wa_marked : Nat := 47
abbrev o_Tu : Nat := 48
abbrev tu_outs : Nat := 49
abbrev tu_stamps : Nat := 50
abbrev tu_regrets : Nat := 51
abbrev o_Cr : Nat := 52
abbrev cr_there : Nat := 53
abbrev cr_back : Nat := 54
abbrev o_Pe : Nat := 55
abbrev pe_doses : Nat := 56
abbrev pe_outs : Nat := 57
abbrev pe_deeds : Nat := 58
abbrev o_Ro : Nat := 59
abbrev ro_cells : Nat := 60
abbrev ro_sorts : Nat := 61
abbrev ro_lengths : Nat := 62
abbrev o_M : Nat := 63
abbrev m_room : Nat := 64
abbrev m_out : Nat := 65
abbrev m_water : Nat := 66
abbrev m_wA : Nat := 67
abbrev m_wB : Nat := 68
abbrev m_wLong : Nat := 69
abbrev m_wWide : Nat := 70
abbrev m_wDraught : Nat := 71
abbrev m_fPiece : Nat := 72
abbrev m_fFrom : Nat := 73
abbrev m_fTo : Nat := 74
abbrev m_fFirst : Nat := 75
abbrev m_fGrows : Nat := 76
abbrev m_fTop : Nat := 77
abbrev m_nWay : Nat := 78
abbrev m_nPush : Nat := 79
abbrev m_nBears : Nat := 80
abbrev m_nCable : Nat := 81
abbrev m_tPlan : Nat := 82
abbrev m_tFan : Nat := 83
abbrev m_tMinute : Nat := 84
abbrev m_tIs : Nat := 85
abbrev m_gPiece : Nat := 86
abbrev m_gPeople : Nat := 87
abbrev m_gStart : Nat := 88
abbrev m_dPiece : Nat := 89
abbrev m_dWide : Nat := 90
abbrev m_dCost : Nat := 91
abbrev m_isMade : Nat := 92
abbrev m_rBy : Nat := 93
abbrev m_rPeople : Nat := 94
abbrev m_aPiece : Nat := 95
abbrev m_aMinute : Nat := 96
abbrev m_aIs : Nat := 97
abbrev m_acts : Nat := 98
abbrev m_above : Nat := 99
abbrev m_mixed : Nat := 100
abbrev m_air : Nat := 101
abbrev m_lostAt : Nat := 102
abbrev m_gave : Nat := 103
abbrev m_gone : Nat := 104
abbrev m_washed : Nat := 105
abbrev m_head : Nat := 106
abbrev m_now : Nat := 107
abbrev m_far : Nat := 108
abbrev m_queue : Nat := 109
abbrev m_path : Nat := 110
abbrev m_behind : Nat := 111
abbrev m_to : Nat := 112
abbrev m_left : Nat := 113
abbrev m_sides : Nat := 114
abbrev m_tells : Nat := 115
abbrev m_regrets : Nat := 116
abbrev m_goes : Nat := 117
abbrev m_there : Nat := 118
abbrev m_back : Nat := 119
abbrev m_dose : Nat := 120
abbrev m_outMinute : Nat := 121
abbrev m_deed : Nat := 122
abbrev m_wherever : Nat := 123
abbrev m_hasMark : Nat := 124
abbrev m_rSort : Nat := 125
abbrev m_rMany : Nat := 126
abbrev m_numbers : Nat := 127
abbrev l_ans : Nat := 128
def S0 : List XS := [
  .inl (11, [some (xR (some o_Ac)), some (xR (some o_Ho)), some (xR (some o_Sm)), some (xR (some o_Es)), some (xR (some o_Tu)), some (xR (some o_Wa)), some (xR (some o_Cr)), some (xR (some o_Pe)), some (xR (some o_Ro))]),
  .inl (0, [some (xR (some ac_tables)), some (xR (some ac_changed)), some (xR (some ac_kept)), none, none, none, none]),
  .inr (3, 100),
  .inr (0, 100),
  .inr (0, 600),
  .inl (3, [some (xR (some t_pieces)), some (xR (some t_ways)), some (xR (some t_fires)), some (xR (some t_fans)), some (xR (some t_sets)), some (xR (some t_groups)), some (xR (some t_doors)), some (xR (some t_drills)), some (xR (some t_readings)), some (xR (some t_dials)), some (xR (some o_Ac))]),
  .inl (8, [some (xI (8)), some (xR (some q_pieces)), none]),
  .inr (0, 48),
  .inl (8, [some (xI (12)), some (xR (some q_ways)), none]),
  .inr (0, 72),
  .inl (8, [some (xI (4)), some (xR (some q_fires)), none]),
  .inr (0, 24),
  .inl (8, [some (xI (8)), some (xR (some q_fans)), none]),
  .inr (0, 48),
  .inl (8, [some (xI (60)), some (xR (some q_sets)), none]),
  .inr (0, 360),
  .inl (8, [some (xI (10)), some (xR (some q_groups)), none]),
  .inr (0, 60),
  .inl (8, [some (xI (6)), some (xR (some q_doors)), none]),
  .inr (0, 36),
  .inl (8, [some (xI (10)), some (xR (some q_drills)), none]),
  .inr (0, 60),
  .inl (8, [some (xI (40)), some (xR (some q_readings)), none]),
  .inr (0, 240),
  .inl (8, [some (xI (1)), some (xR (some q_dials)), none]),
  .inr (0, 6),
  .inl (7, [some (xR (some o_Ho)), some (xR (some o_Ac)), some (xR (some sm_above)), some (xR (some sm_mixed)), some (xR (some sm_airs)), some (xR (some sm_totals)), some (xR (some sm_lost)), some (xR (some sm_turned)), some (xR (some sm_turnedFrom)), some (xR (some sm_shares)), some (xR (some sm_leftAbove)), some (xR (some sm_leftMixed)), none, none, none, none, none, none]),
  .inr (0, 168),
  .inr (0, 168),
  .inr (0, 252),
  .inr (0, 63),
  .inr (0, 8),
  .inr (0, 168),
  .inr (0, 168),
  .inr (0, 8),
  .inr (0, 8),
  .inr (0, 8),
  .inl (2, [some (xR (some o_Ho)), some (xR (some o_Sm)), some (xR (some o_Ne))]),
  .inl (4, [some (xR (some ne_heads)), some (xR (some ne_pointers)), some (xR (some ne_path)), some (xR (some ne_seen)), some (xR (some ne_later)), some (xR (some ne_ends)), some (xR (some ne_free)), none]),
  .inr (0, 338),
  .inr (0, 338),
  .inr (0, 338),
  .inr (2, 338),
  .inr (0, 2048),
  .inr (0, 2048),
  .inr (0, 2048),
  .inl (10, [some (xR (some o_Ho)), some (xR (some o_Sm)), some (xR (some wa_marked))]),
  .inr (0, 105),
  .inl (9, [some (xR (some o_Ho)), some (xR (some o_Ac)), some (xR (some o_Sm)), some (xR (some o_Es)), some (xR (some o_Wa)), some (xR (some tu_outs)), some (xR (some tu_stamps)), some (xR (some tu_regrets))]),
  .inr (0, 80),
  .inr (0, 80),
  .inr (0, 16),
  .inl (1, [some (xR (some o_Ho)), some (xR (some o_Sm)), some (xR (some cr_there)), some (xR (some cr_back))]),
  .inr (0, 168),
  .inr (0, 168),
  .inl (5, [some (xR (some o_Ho)), some (xR (some o_Sm)), some (xR (some pe_doses)), some (xR (some pe_outs)), some (xR (some pe_deeds))]),
  .inr (0, 168),
  .inr (0, 168),
  .inr (0, 168),
  .inl (6, [some (xR (some ro_cells)), some (xR (some ro_sorts)), some (xR (some ro_lengths)), none]),
  .inr (1, 120),
  .inr (0, 4),
  .inr (0, 4),
  .inl (12, [none, none, none, none, none, none, none, none, none, none, none, none, none, none, none, some (xR (some m_room)), some (xR (some m_out)), some (xR (some m_water)), some (xR (some m_wA)), some (xR (some m_wB)), some (xR (some m_wLong)), some (xR (some m_wWide)), some (xR (some m_wDraught)), some (xR (some m_fPiece)), some (xR (some m_fFrom)), some (xR (some m_fTo)), some (xR (some m_fFirst)), some (xR (some m_fGrows)), some (xR (some m_fTop)), some (xR (some m_nWay)), some (xR (some m_nPush)), some (xR (some m_nBears)), some (xR (some m_nCable)), some (xR (some m_tPlan)), some (xR (some m_tFan)), some (xR (some m_tMinute)), some (xR (some m_tIs)), some (xR (some m_gPiece)), some (xR (some m_gPeople)), some (xR (some m_gStart)), some (xR (some m_dPiece)), some (xR (some m_dWide)), some (xR (some m_dCost)), some (xR (some m_isMade)), some (xR (some m_rBy)), some (xR (some m_rPeople)), some (xR (some m_aPiece)), some (xR (some m_aMinute)), some (xR (some m_aIs)), some (xR (some m_acts)), none, none, none, some (xR (some m_above)), some (xR (some m_mixed)), some (xR (some m_air)), some (xR (some m_lostAt)), some (xR (some m_gave)), some (xR (some m_gone)), some (xR (some m_washed)), some (xR (some m_head)), some (xR (some m_now)), some (xR (some m_far)), some (xR (some m_queue)), some (xR (some m_path)), some (xR (some m_behind)), some (xR (some m_to)), some (xR (some m_left)), none, some (xR (some m_sides)), some (xR (some m_tells)), some (xR (some m_regrets)), some (xR (some m_goes)), some (xR (some m_there)), some (xR (some m_back)), some (xR (some m_dose)), some (xR (some m_outMinute)), some (xR (some m_deed)), some (xR (some m_wherever)), some (xR (some m_hasMark)), some (xR (some m_rSort)), some (xR (some m_rMany)), some (xR (some m_numbers))]),
  .inr (0, 8),
  .inr (0, 8),
  .inr (0, 8),
  .inr (0, 12),
  .inr (0, 12),
  .inr (0, 12),
  .inr (0, 12),
  .inr (0, 12),
  .inr (0, 4),
  .inr (0, 4),
  .inr (0, 4),
  .inr (0, 4),
  .inr (0, 4),
  .inr (0, 4),
  .inr (0, 8),
  .inr (0, 8),
  .inr (0, 8),
  .inr (0, 8),
  .inr (0, 60),
  .inr (0, 60),
  .inr (0, 60),
  .inr (0, 60),
  .inr (0, 10),
  .inr (0, 10),
  .inr (0, 10),
  .inr (0, 6),
  .inr (0, 6),
  .inr (0, 6),
  .inr (2, 6),
  .inr (0, 10),
  .inr (0, 10),
  .inr (0, 40),
  .inr (0, 40),
  .inr (0, 40),
  .inr (0, 4480),
  .inr (0, 168),
  .inr (0, 168),
  .inr (0, 252),
  .inr (0, 8),
  .inr (0, 21),
  .inr (0, 21),
  .inr (0, 21),
  .inr (0, 338),
  .inr (0, 338),
  .inr (0, 338),
  .inr (0, 338),
  .inr (0, 338),
  .inr (0, 2400),
  .inr (0, 2400),
  .inr (0, 2400),
  .inr (0, 21),
  .inr (0, 105),
  .inr (0, 16),
  .inr (0, 4),
  .inr (0, 168),
  .inr (0, 168),
  .inr (1, 168),
  .inr (0, 168),
  .inr (0, 168),
  .inr (0, 21),
  .inr (2, 840),
  .inr (0, 4),
  .inr (0, 4),
  .inr (1, 120),
  .inr (1, 1)]
