/-! all methods -/
def sx_L0 : List (Nat × sx_K) := [(12, sx_K12), (13, sx_K13), (14, sx_K14), (15, sx_K15), (16, sx_K16), (17, sx_K17), (18, sx_K18), (19, sx_K19), (20, sx_K20), (21, sx_K21), (23, sx_K23), (24, sx_K24), (25, sx_K25), (26, sx_K26), (27, sx_K27), (28, sx_K28), (30, sx_K30), (33, sx_K33), (35, sx_K35), (37, sx_K37), (38, sx_K38), (41, sx_K41), (42, sx_K42), (43, sx_K43), (44, sx_K44), (45, sx_K45), (46, sx_K46), (51, sx_K51), (52, sx_K52), (53, sx_K53), (54, sx_K54), (55, sx_K55), (57, sx_K57), (58, sx_K58), (60, sx_K60), (63, sx_K63), (64, sx_K64), (66, sx_K66), (67, sx_K67), (68, sx_K68)]
theorem sx_L0_ok : ∀ e ∈ sx_L0, ∀ d, sx_IH sx_PP d → sx_M sx_PP d e.1 e.2 := by
  unfold sx_L0
  refine List.forall_mem_cons.mpr ⟨fun d IH => sx_chk_ok IH sx_k12, ?_⟩
  refine List.forall_mem_cons.mpr ⟨fun d IH => sx_chk_ok IH sx_k13, ?_⟩
  refine List.forall_mem_cons.mpr ⟨fun d IH => sx_chk_ok IH sx_k14, ?_⟩
  refine List.forall_mem_cons.mpr ⟨fun d IH => sx_chk_ok IH sx_k15, ?_⟩
  refine List.forall_mem_cons.mpr ⟨fun d IH => sx_chk_ok IH sx_k16, ?_⟩
  refine List.forall_mem_cons.mpr ⟨fun d IH => sx_chk_ok IH sx_k17, ?_⟩
  refine List.forall_mem_cons.mpr ⟨fun d IH => sx_chk_ok IH sx_k18, ?_⟩
  refine List.forall_mem_cons.mpr ⟨fun d IH => sx_chk_ok IH sx_k19, ?_⟩
  refine List.forall_mem_cons.mpr ⟨fun d IH => sx_chk_ok IH sx_k20, ?_⟩
  refine List.forall_mem_cons.mpr ⟨fun d IH => sx_chk_ok IH sx_k21, ?_⟩
  refine List.forall_mem_cons.mpr ⟨fun d IH => sx_chk_ok IH sx_k23, ?_⟩
  refine List.forall_mem_cons.mpr ⟨fun d IH => sx_chk_ok IH sx_k24, ?_⟩
  refine List.forall_mem_cons.mpr ⟨fun d IH => sx_chk_ok IH sx_k25, ?_⟩
  refine List.forall_mem_cons.mpr ⟨fun d IH => sx_chk_ok IH sx_k26, ?_⟩
  refine List.forall_mem_cons.mpr ⟨fun d IH => sx_chk_ok IH sx_k27, ?_⟩
  refine List.forall_mem_cons.mpr ⟨fun d IH => sx_chk_ok IH sx_k28, ?_⟩
  refine List.forall_mem_cons.mpr ⟨fun d IH => sx_chk_ok IH sx_k30, ?_⟩
  refine List.forall_mem_cons.mpr ⟨fun d IH => sx_chk_ok IH sx_k33, ?_⟩
  refine List.forall_mem_cons.mpr ⟨fun d IH => sx_chk_ok IH sx_k35, ?_⟩
  refine List.forall_mem_cons.mpr ⟨fun d IH => sx_chk_ok IH sx_k37, ?_⟩
  refine List.forall_mem_cons.mpr ⟨fun d IH => sx_chk_ok IH sx_k38, ?_⟩
  refine List.forall_mem_cons.mpr ⟨fun d IH => sx_chk_ok IH sx_k41, ?_⟩
  refine List.forall_mem_cons.mpr ⟨fun d IH => sx_chk_ok IH sx_k42, ?_⟩
  refine List.forall_mem_cons.mpr ⟨fun d IH => sx_chk_ok IH sx_k43, ?_⟩
  refine List.forall_mem_cons.mpr ⟨fun d IH => sx_chk_ok IH sx_k44, ?_⟩
  refine List.forall_mem_cons.mpr ⟨fun d IH => sx_chk_ok IH sx_k45, ?_⟩
  refine List.forall_mem_cons.mpr ⟨fun d IH => sx_chk_ok IH sx_k46, ?_⟩
  refine List.forall_mem_cons.mpr ⟨fun d IH => sx_chk_ok IH sx_k51, ?_⟩
  refine List.forall_mem_cons.mpr ⟨fun d IH => sx_chk_ok IH sx_k52, ?_⟩
  refine List.forall_mem_cons.mpr ⟨fun d IH => sx_chk_ok IH sx_k53, ?_⟩
  refine List.forall_mem_cons.mpr ⟨fun d IH => sx_chk_ok IH sx_k54, ?_⟩
  refine List.forall_mem_cons.mpr ⟨fun d IH => sx_chk_ok IH sx_k55, ?_⟩
  refine List.forall_mem_cons.mpr ⟨fun d IH => sx_chk_ok IH sx_k57, ?_⟩
  refine List.forall_mem_cons.mpr ⟨fun d IH => sx_chk_ok IH sx_k58, ?_⟩
  refine List.forall_mem_cons.mpr ⟨fun d IH => sx_chk_ok IH sx_k60, ?_⟩
  refine List.forall_mem_cons.mpr ⟨fun d IH => sx_chk_ok IH sx_k63, ?_⟩
  refine List.forall_mem_cons.mpr ⟨fun d IH => sx_M64 IH, ?_⟩
  refine List.forall_mem_cons.mpr ⟨fun d IH => sx_chk_ok IH sx_k66, ?_⟩
  refine List.forall_mem_cons.mpr ⟨fun d IH => sx_chk_ok IH sx_k67, ?_⟩
  refine List.forall_mem_cons.mpr ⟨fun d IH => sx_chk_ok IH sx_k68, ?_⟩
  exact fun e he => by cases he
def sx_L1 : List (Nat × sx_K) := [(69, sx_K69), (70, sx_K70), (72, sx_K72), (73, sx_K73), (76, sx_K76), (77, sx_K77), (83, sx_K83), (86, sx_K86), (89, sx_K89), (90, sx_K90), (92, sx_K92), (93, sx_K93), (94, sx_K94), (95, sx_K95), (96, sx_K96), (97, sx_K97), (98, sx_K98), (99, sx_K99), (100, sx_K100), (101, sx_K101), (102, sx_K102), (103, sx_K103), (104, sx_K104), (105, sx_K105), (106, sx_K106), (107, sx_K107), (108, sx_K108), (109, sx_K109), (110, sx_K110), (111, sx_K111), (112, sx_K112), (113, sx_K113), (114, sx_K114), (115, sx_K115), (116, sx_K116), (117, sx_K117), (118, sx_K118), (119, sx_K119), (120, sx_K120), (121, sx_K121)]
theorem sx_L1_ok : ∀ e ∈ sx_L1, ∀ d, sx_IH sx_PP d → sx_M sx_PP d e.1 e.2 := by
  unfold sx_L1
  refine List.forall_mem_cons.mpr ⟨fun d IH => sx_chk_ok IH sx_k69, ?_⟩
  refine List.forall_mem_cons.mpr ⟨fun d IH => sx_chk_ok IH sx_k70, ?_⟩
  refine List.forall_mem_cons.mpr ⟨fun d IH => sx_chk_ok IH sx_k72, ?_⟩
  refine List.forall_mem_cons.mpr ⟨fun d IH => sx_chk_ok IH sx_k73, ?_⟩
  refine List.forall_mem_cons.mpr ⟨fun d IH => sx_chk_ok IH sx_k76, ?_⟩
  refine List.forall_mem_cons.mpr ⟨fun d IH => sx_chk_ok IH sx_k77, ?_⟩
  refine List.forall_mem_cons.mpr ⟨fun d IH => sx_chk_ok IH sx_k83, ?_⟩
  refine List.forall_mem_cons.mpr ⟨fun d IH => sx_chk_ok IH sx_k86, ?_⟩
  refine List.forall_mem_cons.mpr ⟨fun d IH => sx_chk_ok IH sx_k89, ?_⟩
  refine List.forall_mem_cons.mpr ⟨fun d IH => sx_chk_ok IH sx_k90, ?_⟩
  refine List.forall_mem_cons.mpr ⟨fun d IH => sx_chk_ok IH sx_k92, ?_⟩
  refine List.forall_mem_cons.mpr ⟨fun d IH => sx_chk_ok IH sx_k93, ?_⟩
  refine List.forall_mem_cons.mpr ⟨fun d IH => sx_chk_ok IH sx_k94, ?_⟩
  refine List.forall_mem_cons.mpr ⟨fun d IH => sx_chk_ok IH sx_k95, ?_⟩
  refine List.forall_mem_cons.mpr ⟨fun d IH => sx_chk_ok IH sx_k96, ?_⟩
  refine List.forall_mem_cons.mpr ⟨fun d IH => sx_chk_ok IH sx_k97, ?_⟩
  refine List.forall_mem_cons.mpr ⟨fun d IH => sx_chk_ok IH sx_k98, ?_⟩
  refine List.forall_mem_cons.mpr ⟨fun d IH => sx_chk_ok IH sx_k99, ?_⟩
  refine List.forall_mem_cons.mpr ⟨fun d IH => sx_chk_ok IH sx_k100, ?_⟩
  refine List.forall_mem_cons.mpr ⟨fun d IH => sx_chk_ok IH sx_k101, ?_⟩
  refine List.forall_mem_cons.mpr ⟨fun d IH => sx_chk_ok IH sx_k102, ?_⟩
  refine List.forall_mem_cons.mpr ⟨fun d IH => sx_chk_ok IH sx_k103, ?_⟩
  refine List.forall_mem_cons.mpr ⟨fun d IH => sx_chk_ok IH sx_k104, ?_⟩
  refine List.forall_mem_cons.mpr ⟨fun d IH => sx_chk_ok IH sx_k105, ?_⟩
  refine List.forall_mem_cons.mpr ⟨fun d IH => sx_chk_ok IH sx_k106, ?_⟩
  refine List.forall_mem_cons.mpr ⟨fun d IH => sx_chk_ok IH sx_k107, ?_⟩
  refine List.forall_mem_cons.mpr ⟨fun d IH => sx_chk_ok IH sx_k108, ?_⟩
  refine List.forall_mem_cons.mpr ⟨fun d IH => sx_chk_ok IH sx_k109, ?_⟩
  refine List.forall_mem_cons.mpr ⟨fun d IH => sx_chk_ok IH sx_k110, ?_⟩
  refine List.forall_mem_cons.mpr ⟨fun d IH => sx_chk_ok IH sx_k111, ?_⟩
  refine List.forall_mem_cons.mpr ⟨fun d IH => sx_chk_ok IH sx_k112, ?_⟩
  refine List.forall_mem_cons.mpr ⟨fun d IH => sx_chk_ok IH sx_k113, ?_⟩
  refine List.forall_mem_cons.mpr ⟨fun d IH => sx_chk_ok IH sx_k114, ?_⟩
  refine List.forall_mem_cons.mpr ⟨fun d IH => sx_chk_ok IH sx_k115, ?_⟩
  refine List.forall_mem_cons.mpr ⟨fun d IH => sx_chk_ok IH sx_k116, ?_⟩
  refine List.forall_mem_cons.mpr ⟨fun d IH => sx_chk_ok IH sx_k117, ?_⟩
  refine List.forall_mem_cons.mpr ⟨fun d IH => sx_chk_ok IH sx_k118, ?_⟩
  refine List.forall_mem_cons.mpr ⟨fun d IH => sx_chk_ok IH sx_k119, ?_⟩
  refine List.forall_mem_cons.mpr ⟨fun d IH => sx_chk_ok IH sx_k120, ?_⟩
  refine List.forall_mem_cons.mpr ⟨fun d IH => sx_chk_ok IH sx_k121, ?_⟩
  exact fun e he => by cases he
def sx_L2 : List (Nat × sx_K) := [(122, sx_K122), (123, sx_K123), (124, sx_K124), (125, sx_K125), (126, sx_K126), (127, sx_K127), (128, sx_K128), (129, sx_K129), (130, sx_K130), (131, sx_K131), (132, sx_K132), (133, sx_K133), (134, sx_K134), (135, sx_K135), (136, sx_K136), (137, sx_K137), (138, sx_K138), (139, sx_K139), (140, sx_K140), (141, sx_K141), (143, sx_K143), (144, sx_K144), (145, sx_K145), (146, sx_K146), (147, sx_K147), (148, sx_K148), (149, sx_K149), (150, sx_K150), (151, sx_K151), (153, sx_K153), (154, sx_K154), (155, sx_K155), (156, sx_K156), (157, sx_K157), (158, sx_K158), (159, sx_K159), (160, sx_K160), (161, sx_K161), (164, sx_K164), (166, sx_K166)]
theorem sx_L2_ok : ∀ e ∈ sx_L2, ∀ d, sx_IH sx_PP d → sx_M sx_PP d e.1 e.2 := by
  unfold sx_L2
  refine List.forall_mem_cons.mpr ⟨fun d IH => sx_chk_ok IH sx_k122, ?_⟩
  refine List.forall_mem_cons.mpr ⟨fun d IH => sx_chk_ok IH sx_k123, ?_⟩
  refine List.forall_mem_cons.mpr ⟨fun d IH => sx_chk_ok IH sx_k124, ?_⟩
  refine List.forall_mem_cons.mpr ⟨fun d IH => sx_chk_ok IH sx_k125, ?_⟩
  refine List.forall_mem_cons.mpr ⟨fun d IH => sx_chk_ok IH sx_k126, ?_⟩
  refine List.forall_mem_cons.mpr ⟨fun d IH => sx_chk_ok IH sx_k127, ?_⟩
  refine List.forall_mem_cons.mpr ⟨fun d IH => sx_chk_ok IH sx_k128, ?_⟩
  refine List.forall_mem_cons.mpr ⟨fun d IH => sx_chk_ok IH sx_k129, ?_⟩
  refine List.forall_mem_cons.mpr ⟨fun d IH => sx_chk_ok IH sx_k130, ?_⟩
  refine List.forall_mem_cons.mpr ⟨fun d IH => sx_chk_ok IH sx_k131, ?_⟩
  refine List.forall_mem_cons.mpr ⟨fun d IH => sx_chk_ok IH sx_k132, ?_⟩
  refine List.forall_mem_cons.mpr ⟨fun d IH => sx_chk_ok IH sx_k133, ?_⟩
  refine List.forall_mem_cons.mpr ⟨fun d IH => sx_chk_ok IH sx_k134, ?_⟩
  refine List.forall_mem_cons.mpr ⟨fun d IH => sx_chk_ok IH sx_k135, ?_⟩
  refine List.forall_mem_cons.mpr ⟨fun d IH => sx_chk_ok IH sx_k136, ?_⟩
  refine List.forall_mem_cons.mpr ⟨fun d IH => sx_chk_ok IH sx_k137, ?_⟩
  refine List.forall_mem_cons.mpr ⟨fun d IH => sx_chk_ok IH sx_k138, ?_⟩
  refine List.forall_mem_cons.mpr ⟨fun d IH => sx_chk_ok IH sx_k139, ?_⟩
  refine List.forall_mem_cons.mpr ⟨fun d IH => sx_chk_ok IH sx_k140, ?_⟩
  refine List.forall_mem_cons.mpr ⟨fun d IH => sx_chk_ok IH sx_k141, ?_⟩
  refine List.forall_mem_cons.mpr ⟨fun d IH => sx_chk_ok IH sx_k143, ?_⟩
  refine List.forall_mem_cons.mpr ⟨fun d IH => sx_chk_ok IH sx_k144, ?_⟩
  refine List.forall_mem_cons.mpr ⟨fun d IH => sx_chk_ok IH sx_k145, ?_⟩
  refine List.forall_mem_cons.mpr ⟨fun d IH => sx_chk_ok IH sx_k146, ?_⟩
  refine List.forall_mem_cons.mpr ⟨fun d IH => sx_chk_ok IH sx_k147, ?_⟩
  refine List.forall_mem_cons.mpr ⟨fun d IH => sx_chk_ok IH sx_k148, ?_⟩
  refine List.forall_mem_cons.mpr ⟨fun d IH => sx_chk_ok IH sx_k149, ?_⟩
  refine List.forall_mem_cons.mpr ⟨fun d IH => sx_chk_ok IH sx_k150, ?_⟩
  refine List.forall_mem_cons.mpr ⟨fun d IH => sx_chk_ok IH sx_k151, ?_⟩
  refine List.forall_mem_cons.mpr ⟨fun d IH => sx_chk_ok IH sx_k153, ?_⟩
  refine List.forall_mem_cons.mpr ⟨fun d IH => sx_chk_ok IH sx_k154, ?_⟩
  refine List.forall_mem_cons.mpr ⟨fun d IH => sx_chk_ok IH sx_k155, ?_⟩
  refine List.forall_mem_cons.mpr ⟨fun d IH => sx_chk_ok IH sx_k156, ?_⟩
  refine List.forall_mem_cons.mpr ⟨fun d IH => sx_chk_ok IH sx_k157, ?_⟩
  refine List.forall_mem_cons.mpr ⟨fun d IH => sx_chk_ok IH sx_k158, ?_⟩
  refine List.forall_mem_cons.mpr ⟨fun d IH => sx_chk_ok IH sx_k159, ?_⟩
  refine List.forall_mem_cons.mpr ⟨fun d IH => sx_chk_ok IH sx_k160, ?_⟩
  refine List.forall_mem_cons.mpr ⟨fun d IH => sx_chk_ok IH sx_k161, ?_⟩
  refine List.forall_mem_cons.mpr ⟨fun d IH => sx_chk_ok IH sx_k164, ?_⟩
  refine List.forall_mem_cons.mpr ⟨fun d IH => sx_chk_ok IH sx_k166, ?_⟩
  exact fun e he => by cases he
def sx_L3 : List (Nat × sx_K) := [(167, sx_K167), (169, sx_K169), (170, sx_K170), (172, sx_K172), (173, sx_K173), (175, sx_K175), (178, sx_K178), (182, sx_K182), (184, sx_K184), (196, sx_K196), (197, sx_K197), (198, sx_K198), (199, sx_K199), (200, sx_K200), (201, sx_K201), (209, sx_K209), (211, sx_K211), (214, sx_K214), (215, sx_K215), (216, sx_K216), (217, sx_K217), (218, sx_K218), (219, sx_K219), (221, sx_K221), (222, sx_K222), (226, sx_K226), (228, sx_K228), (229, sx_K229), (234, sx_K234), (242, sx_K242), (243, sx_K243), (246, sx_K246), (251, sx_K251), (252, sx_K252), (253, sx_K253), (254, sx_K254), (255, sx_K255), (256, sx_K256), (257, sx_K257), (259, sx_K259)]
theorem sx_L3_ok : ∀ e ∈ sx_L3, ∀ d, sx_IH sx_PP d → sx_M sx_PP d e.1 e.2 := by
  unfold sx_L3
  refine List.forall_mem_cons.mpr ⟨fun d IH => sx_chk_ok IH sx_k167, ?_⟩
  refine List.forall_mem_cons.mpr ⟨fun d IH => sx_chk_ok IH sx_k169, ?_⟩
  refine List.forall_mem_cons.mpr ⟨fun d IH => sx_chk_ok IH sx_k170, ?_⟩
  refine List.forall_mem_cons.mpr ⟨fun d IH => sx_chk_ok IH sx_k172, ?_⟩
  refine List.forall_mem_cons.mpr ⟨fun d IH => sx_chk_ok IH sx_k173, ?_⟩
  refine List.forall_mem_cons.mpr ⟨fun d IH => sx_chk_ok IH sx_k175, ?_⟩
  refine List.forall_mem_cons.mpr ⟨fun d IH => sx_chk_ok IH sx_k178, ?_⟩
  refine List.forall_mem_cons.mpr ⟨fun d IH => sx_chk_ok IH sx_k182, ?_⟩
  refine List.forall_mem_cons.mpr ⟨fun d IH => sx_chk_ok IH sx_k184, ?_⟩
  refine List.forall_mem_cons.mpr ⟨fun d IH => sx_chk_ok IH sx_k196, ?_⟩
  refine List.forall_mem_cons.mpr ⟨fun d IH => sx_chk_ok IH sx_k197, ?_⟩
  refine List.forall_mem_cons.mpr ⟨fun d IH => sx_chk_ok IH sx_k198, ?_⟩
  refine List.forall_mem_cons.mpr ⟨fun d IH => sx_chk_ok IH sx_k199, ?_⟩
  refine List.forall_mem_cons.mpr ⟨fun d IH => sx_chk_ok IH sx_k200, ?_⟩
  refine List.forall_mem_cons.mpr ⟨fun d IH => sx_chk_ok IH sx_k201, ?_⟩
  refine List.forall_mem_cons.mpr ⟨fun d IH => sx_chk_ok IH sx_k209, ?_⟩
  refine List.forall_mem_cons.mpr ⟨fun d IH => sx_chk_ok IH sx_k211, ?_⟩
  refine List.forall_mem_cons.mpr ⟨fun d IH => sx_chk_ok IH sx_k214, ?_⟩
  refine List.forall_mem_cons.mpr ⟨fun d IH => sx_chk_ok IH sx_k215, ?_⟩
  refine List.forall_mem_cons.mpr ⟨fun d IH => sx_chk_ok IH sx_k216, ?_⟩
  refine List.forall_mem_cons.mpr ⟨fun d IH => sx_chk_ok IH sx_k217, ?_⟩
  refine List.forall_mem_cons.mpr ⟨fun d IH => sx_chk_ok IH sx_k218, ?_⟩
  refine List.forall_mem_cons.mpr ⟨fun d IH => sx_chk_ok IH sx_k219, ?_⟩
  refine List.forall_mem_cons.mpr ⟨fun d IH => sx_chk_ok IH sx_k221, ?_⟩
  refine List.forall_mem_cons.mpr ⟨fun d IH => sx_M222 IH, ?_⟩
  refine List.forall_mem_cons.mpr ⟨fun d IH => sx_chk_ok IH sx_k226, ?_⟩
  refine List.forall_mem_cons.mpr ⟨fun d IH => sx_chk_ok IH sx_k228, ?_⟩
  refine List.forall_mem_cons.mpr ⟨fun d IH => sx_chk_ok IH sx_k229, ?_⟩
  refine List.forall_mem_cons.mpr ⟨fun d IH => sx_chk_ok IH sx_k234, ?_⟩
  refine List.forall_mem_cons.mpr ⟨fun d IH => sx_chk_ok IH sx_k242, ?_⟩
  refine List.forall_mem_cons.mpr ⟨fun d IH => sx_chk_ok IH sx_k243, ?_⟩
  refine List.forall_mem_cons.mpr ⟨fun d IH => sx_chk_ok IH sx_k246, ?_⟩
  refine List.forall_mem_cons.mpr ⟨fun d IH => sx_chk_ok IH sx_k251, ?_⟩
  refine List.forall_mem_cons.mpr ⟨fun d IH => sx_chk_ok IH sx_k252, ?_⟩
  refine List.forall_mem_cons.mpr ⟨fun d IH => sx_chk_ok IH sx_k253, ?_⟩
  refine List.forall_mem_cons.mpr ⟨fun d IH => sx_chk_ok IH sx_k254, ?_⟩
  refine List.forall_mem_cons.mpr ⟨fun d IH => sx_chk_ok IH sx_k255, ?_⟩
  refine List.forall_mem_cons.mpr ⟨fun d IH => sx_chk_ok IH sx_k256, ?_⟩
  refine List.forall_mem_cons.mpr ⟨fun d IH => sx_chk_ok IH sx_k257, ?_⟩
  refine List.forall_mem_cons.mpr ⟨fun d IH => sx_chk_ok IH sx_k259, ?_⟩
  exact fun e he => by cases he
def sx_L4 : List (Nat × sx_K) := [(260, sx_K260), (262, sx_K262), (263, sx_K263), (264, sx_K264), (265, sx_K265), (266, sx_K266), (269, sx_K269), (270, sx_K270), (271, sx_K271), (272, sx_K272), (273, sx_K273), (274, sx_K274), (275, sx_K275), (276, sx_K276), (277, sx_K277), (278, sx_K278), (280, sx_K280), (281, sx_K281), (282, sx_K282), (283, sx_K283), (284, sx_K284), (285, sx_K285), (286, sx_K286), (287, sx_K287), (288, sx_K288), (289, sx_K289), (290, sx_K290), (291, sx_K291), (292, sx_K292), (293, sx_K293), (297, sx_K297), (298, sx_K298), (300, sx_K300), (301, sx_K301), (302, sx_K302), (303, sx_K303), (305, sx_K305), (306, sx_K306), (307, sx_K307), (311, sx_K311)]
theorem sx_L4_ok : ∀ e ∈ sx_L4, ∀ d, sx_IH sx_PP d → sx_M sx_PP d e.1 e.2 := by
  unfold sx_L4
  refine List.forall_mem_cons.mpr ⟨fun d IH => sx_chk_ok IH sx_k260, ?_⟩
  refine List.forall_mem_cons.mpr ⟨fun d IH => sx_chk_ok IH sx_k262, ?_⟩
  refine List.forall_mem_cons.mpr ⟨fun d IH => sx_chk_ok IH sx_k263, ?_⟩
  refine List.forall_mem_cons.mpr ⟨fun d IH => sx_chk_ok IH sx_k264, ?_⟩
  refine List.forall_mem_cons.mpr ⟨fun d IH => sx_chk_ok IH sx_k265, ?_⟩
  refine List.forall_mem_cons.mpr ⟨fun d IH => sx_chk_ok IH sx_k266, ?_⟩
  refine List.forall_mem_cons.mpr ⟨fun d IH => sx_chk_ok IH sx_k269, ?_⟩
  refine List.forall_mem_cons.mpr ⟨fun d IH => sx_chk_ok IH sx_k270, ?_⟩
  refine List.forall_mem_cons.mpr ⟨fun d IH => sx_chk_ok IH sx_k271, ?_⟩
  refine List.forall_mem_cons.mpr ⟨fun d IH => sx_chk_ok IH sx_k272, ?_⟩
  refine List.forall_mem_cons.mpr ⟨fun d IH => sx_chk_ok IH sx_k273, ?_⟩
  refine List.forall_mem_cons.mpr ⟨fun d IH => sx_chk_ok IH sx_k274, ?_⟩
  refine List.forall_mem_cons.mpr ⟨fun d IH => sx_chk_ok IH sx_k275, ?_⟩
  refine List.forall_mem_cons.mpr ⟨fun d IH => sx_chk_ok IH sx_k276, ?_⟩
  refine List.forall_mem_cons.mpr ⟨fun d IH => sx_chk_ok IH sx_k277, ?_⟩
  refine List.forall_mem_cons.mpr ⟨fun d IH => sx_chk_ok IH sx_k278, ?_⟩
  refine List.forall_mem_cons.mpr ⟨fun d IH => sx_chk_ok IH sx_k280, ?_⟩
  refine List.forall_mem_cons.mpr ⟨fun d IH => sx_chk_ok IH sx_k281, ?_⟩
  refine List.forall_mem_cons.mpr ⟨fun d IH => sx_chk_ok IH sx_k282, ?_⟩
  refine List.forall_mem_cons.mpr ⟨fun d IH => sx_chk_ok IH sx_k283, ?_⟩
  refine List.forall_mem_cons.mpr ⟨fun d IH => sx_chk_ok IH sx_k284, ?_⟩
  refine List.forall_mem_cons.mpr ⟨fun d IH => sx_chk_ok IH sx_k285, ?_⟩
  refine List.forall_mem_cons.mpr ⟨fun d IH => sx_chk_ok IH sx_k286, ?_⟩
  refine List.forall_mem_cons.mpr ⟨fun d IH => sx_chk_ok IH sx_k287, ?_⟩
  refine List.forall_mem_cons.mpr ⟨fun d IH => sx_chk_ok IH sx_k288, ?_⟩
  refine List.forall_mem_cons.mpr ⟨fun d IH => sx_chk_ok IH sx_k289, ?_⟩
  refine List.forall_mem_cons.mpr ⟨fun d IH => sx_chk_ok IH sx_k290, ?_⟩
  refine List.forall_mem_cons.mpr ⟨fun d IH => sx_chk_ok IH sx_k291, ?_⟩
  refine List.forall_mem_cons.mpr ⟨fun d IH => sx_chk_ok IH sx_k292, ?_⟩
  refine List.forall_mem_cons.mpr ⟨fun d IH => sx_chk_ok IH sx_k293, ?_⟩
  refine List.forall_mem_cons.mpr ⟨fun d IH => sx_chk_ok IH sx_k297, ?_⟩
  refine List.forall_mem_cons.mpr ⟨fun d IH => sx_chk_ok IH sx_k298, ?_⟩
  refine List.forall_mem_cons.mpr ⟨fun d IH => sx_chk_ok IH sx_k300, ?_⟩
  refine List.forall_mem_cons.mpr ⟨fun d IH => sx_chk_ok IH sx_k301, ?_⟩
  refine List.forall_mem_cons.mpr ⟨fun d IH => sx_chk_ok IH sx_k302, ?_⟩
  refine List.forall_mem_cons.mpr ⟨fun d IH => sx_chk_ok IH sx_k303, ?_⟩
  refine List.forall_mem_cons.mpr ⟨fun d IH => sx_chk_ok IH sx_k305, ?_⟩
  refine List.forall_mem_cons.mpr ⟨fun d IH => sx_chk_ok IH sx_k306, ?_⟩
  refine List.forall_mem_cons.mpr ⟨fun d IH => sx_chk_ok IH sx_k307, ?_⟩
  refine List.forall_mem_cons.mpr ⟨fun d IH => sx_chk_ok IH sx_k311, ?_⟩
  exact fun e he => by cases he
def sx_L5 : List (Nat × sx_K) := [(312, sx_K312), (313, sx_K313), (314, sx_K314)]
theorem sx_L5_ok : ∀ e ∈ sx_L5, ∀ d, sx_IH sx_PP d → sx_M sx_PP d e.1 e.2 := by
  unfold sx_L5
  refine List.forall_mem_cons.mpr ⟨fun d IH => sx_chk_ok IH sx_k312, ?_⟩
  refine List.forall_mem_cons.mpr ⟨fun d IH => sx_chk_ok IH sx_k313, ?_⟩
  refine List.forall_mem_cons.mpr ⟨fun d IH => sx_chk_ok IH sx_k314, ?_⟩
  exact fun e he => by cases he
/-- those that are shown by hand elsewhere -/
def sx_HL : List (Nat × sx_K) := [(142, sx_K142), (176, sx_K176), (231, sx_K231), (244, sx_K244), (294, sx_K294), (299, sx_K299), (308, sx_K308)]
def sx_ML : List (Nat × sx_K) := sx_L0 ++ sx_L1 ++ sx_L2 ++ sx_L3 ++ sx_L4 ++ sx_L5 ++ sx_HL
set_option maxRecDepth 100000 in
theorem sx_ML_k : ((List.range sx_KK.length).all fun c => match sx_KK[c]? with
  | some (some K) => decide ((c, K) ∈ sx_ML)
  | _ => true) = true := by decide +kernel
theorem sx_AM (hh : ∀ e ∈ sx_HL, ∀ d, sx_IH sx_PP d → sx_M sx_PP d e.1 e.2) : ∀ d c K, sx_KK[c]? = some (some K) → sx_M sx_PP d c K := by
  refine sx_every (P := sx_PP) (fun c K hK d IH => ?_)
  have hK : sx_KK[c]? = some (some K) := hK
  have h1 := List.all_eq_true.mp sx_ML_k c (List.mem_range.mpr (List.getElem?_eq_some_iff.mp hK).1)
  rw [hK] at h1
  have h2 : (c, K) ∈ sx_ML := of_decide_eq_true h1
  have key : ∀ e ∈ sx_ML, ∀ d, sx_IH sx_PP d → sx_M sx_PP d e.1 e.2 := by
    intro e he
    simp only [sx_ML, List.mem_append] at he
    rcases he with ((((((he | he) | he) | he) | he) | he) | he)
    · exact sx_L0_ok e he
    · exact sx_L1_ok e he
    · exact sx_L2_ok e he
    · exact sx_L3_ok e he
    · exact sx_L4_ok e he
    · exact sx_L5_ok e he
    · exact hh e he
  exact key _ h2 d IH
