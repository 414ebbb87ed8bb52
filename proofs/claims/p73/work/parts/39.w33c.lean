theorem zd244 : zckd prog_1_method_56_code zp244 = true := by decide +kernel
theorem zd245 : zckd prog_14_method_135_code zp245 = true := by decide +kernel
theorem zd246 : zckd prog_1_method_55_code zp246 = true := by decide +kernel
theorem zd247 : zckd prog_14_method_131_code zp247 = true := by decide +kernel
theorem zd248 : zckd prog_1_method_54_code zp248 = true := by decide +kernel
theorem zd249 : zckd prog_14_method_129_code zp249 = true := by decide +kernel
theorem zd250 : zckd prog_1_method_53_code zp250 = true := by decide +kernel
theorem zd251 : zckd prog_14_method_127_code zp251 = true := by decide +kernel
theorem zd252 : zckd prog_1_method_52_code zp252 = true := by decide +kernel
theorem zd253 : zckd prog_14_method_125_code zp253 = true := by decide +kernel
theorem zd254 : zckd prog_1_method_51_code zp254 = true := by decide +kernel
theorem zd255 : zckd prog_14_method_124_code zp255 = true := by decide +kernel
theorem zd256 : zckd prog_1_method_50_code zp256 = true := by decide +kernel
theorem zd257 : zckd prog_14_method_123_code zp257 = true := by decide +kernel
theorem zd258 : zckd prog_1_method_49_code zp258 = true := by decide +kernel
theorem zd259 : zckd prog_14_method_120_code zp259 = true := by decide +kernel
theorem zd260 : zckd prog_1_method_48_code zp260 = true := by decide +kernel
theorem zd261 : zckd prog_14_method_119_code zp261 = true := by decide +kernel
theorem zd262 : zckd prog_1_method_47_code zp262 = true := by decide +kernel
theorem zd263 : zckd prog_14_method_118_code zp263 = true := by decide +kernel
theorem zd264 : zckd prog_1_method_46_code zp264 = true := by decide +kernel
theorem zd265 : zckd prog_14_method_113_code zp265 = true := by decide +kernel
theorem zd266 : zckd prog_1_method_45_code zp266 = true := by decide +kernel
theorem zd267 : zckd prog_14_method_112_code zp267 = true := by decide +kernel
theorem zd268 : zckd prog_1_method_44_code zp268 = true := by decide +kernel
theorem zd269 : zckd prog_14_method_111_code zp269 = true := by decide +kernel
theorem zd270 : zckd prog_1_method_43_code zp270 = true := by decide +kernel
theorem zd271 : zckd prog_14_method_110_code zp271 = true := by decide +kernel
theorem zd272 : zckd prog_1_method_42_code zp272 = true := by decide +kernel
theorem zd273 : zckd prog_14_method_108_code zp273 = true := by decide +kernel
theorem zd274 : zckd prog_1_method_41_code zp274 = true := by decide +kernel
theorem zd275 : zckd prog_14_method_107_code zp275 = true := by decide +kernel
theorem zd276 : zckd prog_1_method_40_code zp276 = true := by decide +kernel
theorem zd277 : zckd prog_14_method_105_code zp277 = true := by decide +kernel
theorem zd278 : zckd prog_1_method_39_code zp278 = true := by decide +kernel
theorem zd279 : zckd prog_14_method_104_code zp279 = true := by decide +kernel
theorem zd280 : zckd prog_1_method_38_code zp280 = true := by decide +kernel
theorem zd281 : zckd prog_14_method_103_code zp281 = true := by decide +kernel
theorem zd282 : zckd prog_1_method_37_code zp282 = true := by decide +kernel
theorem zd283 : zckd prog_14_method_101_code zp283 = true := by decide +kernel
theorem zd284 : zckd prog_1_method_36_code zp284 = true := by decide +kernel
theorem zd285 : zckd prog_14_method_100_code zp285 = true := by decide +kernel
theorem zd286 : zckd prog_1_method_35_code zp286 = true := by decide +kernel
theorem zd287 : zckd prog_14_method_97_code zp287 = true := by decide +kernel
theorem zd288 : zckd prog_1_method_34_code zp288 = true := by decide +kernel
theorem zd289 : zckd prog_14_method_99_code zp289 = true := by decide +kernel
theorem zd290 : zckd prog_1_method_33_code zp290 = true := by decide +kernel
theorem zd291 : zckd prog_14_method_98_code zp291 = true := by decide +kernel
theorem zd292 : zckd prog_1_method_32_code zp292 = true := by decide +kernel
theorem zd293 : zckd prog_14_method_95_code zp293 = true := by decide +kernel
theorem zd294 : zckd prog_1_method_31_code zp294 = true := by decide +kernel
theorem zd295 : zckd prog_14_method_87_code zp295 = true := by decide +kernel
theorem zd296 : zckd prog_1_method_30_code zp296 = true := by decide +kernel
theorem zd297 : zckd prog_14_method_94_code zp297 = true := by decide +kernel
theorem zd298 : zckd prog_1_method_29_code zp298 = true := by decide +kernel
theorem zd299 : zckd prog_14_method_92_code zp299 = true := by decide +kernel
theorem zd300 : zckd prog_1_method_28_code zp300 = true := by decide +kernel
theorem zd301 : zckd prog_14_method_91_code zp301 = true := by decide +kernel
theorem zd302 : zckd prog_1_method_27_code zp302 = true := by decide +kernel
theorem zd303 : zckd prog_14_method_90_code zp303 = true := by decide +kernel
theorem zd304 : zckd prog_1_method_26_code zp304 = true := by decide +kernel
theorem zd305 : zckd prog_14_method_89_code zp305 = true := by decide +kernel
theorem zd306 : zckd prog_1_method_25_code zp306 = true := by decide +kernel
theorem zd307 : zckd prog_14_method_88_code zp307 = true := by decide +kernel
theorem zd308 : zckd prog_1_method_24_code zp308 = true := by decide +kernel
theorem zd309 : zckd prog_14_method_86_code zp309 = true := by decide +kernel
theorem zd310 : zckd prog_1_method_23_code zp310 = true := by decide +kernel
theorem zd311 : zckd prog_14_method_85_code zp311 = true := by decide +kernel
theorem zd312 : zckd prog_1_method_22_code zp312 = true := by decide +kernel
theorem zd313 : zckd prog_14_method_84_code zp313 = true := by decide +kernel
theorem zd314 : zckd prog_1_method_21_code zp314 = true := by decide +kernel
theorem zd315 : zckd prog_14_method_81_code zp315 = true := by decide +kernel
theorem zd316 : zckd prog_1_method_20_code zp316 = true := by decide +kernel
theorem zd317 : zckd prog_14_method_79_code zp317 = true := by decide +kernel
theorem zd318 : zckd prog_1_method_19_code zp318 = true := by decide +kernel
theorem zd319 : zckd prog_14_method_77_code zp319 = true := by decide +kernel
theorem zd320 : zckd prog_1_method_18_code zp320 = true := by decide +kernel
theorem zd321 : zckd prog_14_method_76_code zp321 = true := by decide +kernel
theorem zd322 : zckd prog_1_method_17_code zp322 = true := by decide +kernel
theorem zd323 : zckd prog_14_method_75_code zp323 = true := by decide +kernel
theorem zd324 : zckd prog_1_method_16_code zp324 = true := by decide +kernel
theorem zd325 : zckd prog_14_method_73_code zp325 = true := by decide +kernel
theorem zd326 : zckd prog_1_method_15_code zp326 = true := by decide +kernel
theorem zd327 : zckd prog_14_method_72_code zp327 = true := by decide +kernel
theorem zd328 : zckd prog_1_method_14_code zp328 = true := by decide +kernel
theorem zd329 : zckd prog_14_method_71_code zp329 = true := by decide +kernel
theorem zd330 : zckd prog_1_method_13_code zp330 = true := by decide +kernel
theorem zd331 : zckd prog_14_method_69_code zp331 = true := by decide +kernel
theorem zd332 : zckd prog_1_method_12_code zp332 = true := by decide +kernel
theorem zd333 : zckd prog_14_method_68_code zp333 = true := by decide +kernel
theorem zd334 : zckd prog_1_method_11_code zp334 = true := by decide +kernel
theorem zd335 : zckd prog_14_method_66_code zp335 = true := by decide +kernel
theorem zd336 : zckd prog_1_method_10_code zp336 = true := by decide +kernel
theorem zd337 : zckd prog_14_method_64_code zp337 = true := by decide +kernel
theorem zd338 : zckd prog_1_method_9_code zp338 = true := by decide +kernel
theorem zd339 : zckd prog_14_method_44_code zp339 = true := by decide +kernel
theorem zd340 : zckd prog_1_method_8_code zp340 = true := by decide +kernel
theorem zd341 : zckd prog_14_method_43_code zp341 = true := by decide +kernel
theorem zd342 : zckd prog_1_method_7_code zp342 = true := by decide +kernel
theorem zd343 : zckd prog_14_method_42_code zp343 = true := by decide +kernel
theorem zd344 : zckd prog_1_method_6_code zp344 = true := by decide +kernel
theorem zd345 : zckd prog_14_method_41_code zp345 = true := by decide +kernel
theorem zd346 : zckd prog_1_method_5_code zp346 = true := by decide +kernel
theorem zd347 : zckd prog_14_method_31_code zp347 = true := by decide +kernel
theorem zd348 : zckd prog_1_method_4_code zp348 = true := by decide +kernel
theorem zd349 : zckd prog_14_method_40_code zp349 = true := by decide +kernel
theorem zd350 : zckd prog_1_method_3_code zp350 = true := by decide +kernel
theorem zd351 : zckd prog_14_method_21_code zp351 = true := by decide +kernel
theorem zd352 : zckd prog_1_method_1_code zp352 = true := by decide +kernel
theorem zd353 : zckd prog_8_method_1_code zp353 = true := by decide +kernel
theorem zd354 : zckd prog_9_method_1_code zp354 = true := by decide +kernel
theorem zd355 : zckd prog_10_method_1_code zp355 = true := by decide +kernel
theorem zd356 : zckd prog_5_method_1_code zp356 = true := by decide +kernel
theorem zd357 : zckd prog_2_method_1_code zp357 = true := by decide +kernel
theorem zd358 : zckd prog_3_method_1_code zp358 = true := by decide +kernel
theorem zd359 : zckd prog_6_method_1_code zp359 = true := by decide +kernel
theorem zd360 : zckd prog_12_method_1_code zp360 = true := by decide +kernel
theorem zd361 : zckd prog_7_method_1_code zp361 = true := by decide +kernel
theorem zd362 : zckd prog_21_method_103_code zp362 = true := by decide +kernel
theorem zd363 : zckd prog_11_method_1_code zp363 = true := by decide +kernel
theorem zd364 : zckd prog_4_method_1_code zp364 = true := by decide +kernel
theorem zd365 : zckd prog_14_method_1_code zp365 = true := by decide +kernel
set_option maxRecDepth 100000 in
theorem zok_d : ∀ M ∈ zMT, zckd M.2.1 M.2.2.2.2.1 = true := List.forall_mem_cons.mpr ⟨zd0, List.forall_mem_cons.mpr ⟨zd1, List.forall_mem_cons.mpr ⟨zd2, List.forall_mem_cons.mpr ⟨zd3, List.forall_mem_cons.mpr ⟨zd4, List.forall_mem_cons.mpr ⟨zd5, List.forall_mem_cons.mpr ⟨zd6, List.forall_mem_cons.mpr ⟨zd7, List.forall_mem_cons.mpr ⟨zd8, List.forall_mem_cons.mpr ⟨zd9, List.forall_mem_cons.mpr ⟨zd10, List.forall_mem_cons.mpr ⟨zd11, List.forall_mem_cons.mpr ⟨zd12, List.forall_mem_cons.mpr ⟨zd13, List.forall_mem_cons.mpr ⟨zd14, List.forall_mem_cons.mpr ⟨zd15, List.forall_mem_cons.mpr ⟨zd16, List.forall_mem_cons.mpr ⟨zd17, List.forall_mem_cons.mpr ⟨zd18, List.forall_mem_cons.mpr ⟨zd19, List.forall_mem_cons.mpr ⟨zd20, List.forall_mem_cons.mpr ⟨zd21, List.forall_mem_cons.mpr ⟨zd22, List.forall_mem_cons.mpr ⟨zd23, List.forall_mem_cons.mpr ⟨zd24, List.forall_mem_cons.mpr ⟨zd25, List.forall_mem_cons.mpr ⟨zd26, List.forall_mem_cons.mpr ⟨zd27, List.forall_mem_cons.mpr ⟨zd28, List.forall_mem_cons.mpr ⟨zd29, List.forall_mem_cons.mpr ⟨zd30, List.forall_mem_cons.mpr ⟨zd31, List.forall_mem_cons.mpr ⟨zd32, List.forall_mem_cons.mpr ⟨zd33, List.forall_mem_cons.mpr ⟨zd34, List.forall_mem_cons.mpr ⟨zd35, List.forall_mem_cons.mpr ⟨zd36, List.forall_mem_cons.mpr ⟨zd37, List.forall_mem_cons.mpr ⟨zd38, List.forall_mem_cons.mpr ⟨zd39, List.forall_mem_cons.mpr ⟨zd40, List.forall_mem_cons.mpr ⟨zd41, List.forall_mem_cons.mpr ⟨zd42, List.forall_mem_cons.mpr ⟨zd43, List.forall_mem_cons.mpr ⟨zd44, List.forall_mem_cons.mpr ⟨zd45, List.forall_mem_cons.mpr ⟨zd46, List.forall_mem_cons.mpr ⟨zd47, List.forall_mem_cons.mpr ⟨zd48, List.forall_mem_cons.mpr ⟨zd49, List.forall_mem_cons.mpr ⟨zd50, List.forall_mem_cons.mpr ⟨zd51, List.forall_mem_cons.mpr ⟨zd52, List.forall_mem_cons.mpr ⟨zd53, List.forall_mem_cons.mpr ⟨zd54, List.forall_mem_cons.mpr ⟨zd55, List.forall_mem_cons.mpr ⟨zd56, List.forall_mem_cons.mpr ⟨zd57, List.forall_mem_cons.mpr ⟨zd58, List.forall_mem_cons.mpr ⟨zd59, List.forall_mem_cons.mpr ⟨zd60, List.forall_mem_cons.mpr ⟨zd61, List.forall_mem_cons.mpr ⟨zd62, List.forall_mem_cons.mpr ⟨zd63, List.forall_mem_cons.mpr ⟨zd64, List.forall_mem_cons.mpr ⟨zd65, List.forall_mem_cons.mpr ⟨zd66, List.forall_mem_cons.mpr ⟨zd67, List.forall_mem_cons.mpr ⟨zd68, List.forall_mem_cons.mpr ⟨zd69, List.forall_mem_cons.mpr ⟨zd70, List.forall_mem_cons.mpr ⟨zd71, List.forall_mem_cons.mpr ⟨zd72, List.forall_mem_cons.mpr ⟨zd73, List.forall_mem_cons.mpr ⟨zd74, List.forall_mem_cons.mpr ⟨zd75, List.forall_mem_cons.mpr ⟨zd76, List.forall_mem_cons.mpr ⟨zd77, List.forall_mem_cons.mpr ⟨zd78, List.forall_mem_cons.mpr ⟨zd79, List.forall_mem_cons.mpr ⟨zd80, List.forall_mem_cons.mpr ⟨zd81, List.forall_mem_cons.mpr ⟨zd82, List.forall_mem_cons.mpr ⟨zd83, List.forall_mem_cons.mpr ⟨zd84, List.forall_mem_cons.mpr ⟨zd85, List.forall_mem_cons.mpr ⟨zd86, List.forall_mem_cons.mpr ⟨zd87, List.forall_mem_cons.mpr ⟨zd88, List.forall_mem_cons.mpr ⟨zd89, List.forall_mem_cons.mpr ⟨zd90, List.forall_mem_cons.mpr ⟨zd91, List.forall_mem_cons.mpr ⟨zd92, List.forall_mem_cons.mpr ⟨zd93, List.forall_mem_cons.mpr ⟨zd94, List.forall_mem_cons.mpr ⟨zd95, List.forall_mem_cons.mpr ⟨zd96, List.forall_mem_cons.mpr ⟨zd97, List.forall_mem_cons.mpr ⟨zd98, List.forall_mem_cons.mpr ⟨zd99, List.forall_mem_cons.mpr ⟨zd100, List.forall_mem_cons.mpr ⟨zd101, List.forall_mem_cons.mpr ⟨zd102, List.forall_mem_cons.mpr ⟨zd103, List.forall_mem_cons.mpr ⟨zd104, List.forall_mem_cons.mpr ⟨zd105, List.forall_mem_cons.mpr ⟨zd106, List.forall_mem_cons.mpr ⟨zd107, List.forall_mem_cons.mpr ⟨zd108, List.forall_mem_cons.mpr ⟨zd109, List.forall_mem_cons.mpr ⟨zd110, List.forall_mem_cons.mpr ⟨zd111, List.forall_mem_cons.mpr ⟨zd112, List.forall_mem_cons.mpr ⟨zd113, List.forall_mem_cons.mpr ⟨zd114, List.forall_mem_cons.mpr ⟨zd115, List.forall_mem_cons.mpr ⟨zd116, List.forall_mem_cons.mpr ⟨zd117, List.forall_mem_cons.mpr ⟨zd118, List.forall_mem_cons.mpr ⟨zd119, List.forall_mem_cons.mpr ⟨zd120, List.forall_mem_cons.mpr ⟨zd121, List.forall_mem_cons.mpr ⟨zd122, List.forall_mem_cons.mpr ⟨zd123, List.forall_mem_cons.mpr ⟨zd124, List.forall_mem_cons.mpr ⟨zd125, List.forall_mem_cons.mpr ⟨zd126, List.forall_mem_cons.mpr ⟨zd127, List.forall_mem_cons.mpr ⟨zd128, List.forall_mem_cons.mpr ⟨zd129, List.forall_mem_cons.mpr ⟨zd130, List.forall_mem_cons.mpr ⟨zd131, List.forall_mem_cons.mpr ⟨zd132, List.forall_mem_cons.mpr ⟨zd133, List.forall_mem_cons.mpr ⟨zd134, List.forall_mem_cons.mpr ⟨zd135, List.forall_mem_cons.mpr ⟨zd136, List.forall_mem_cons.mpr ⟨zd137, List.forall_mem_cons.mpr ⟨zd138, List.forall_mem_cons.mpr ⟨zd139, List.forall_mem_cons.mpr ⟨zd140, List.forall_mem_cons.mpr ⟨zd141, List.forall_mem_cons.mpr ⟨zd142, List.forall_mem_cons.mpr ⟨zd143, List.forall_mem_cons.mpr ⟨zd144, List.forall_mem_cons.mpr ⟨zd145, List.forall_mem_cons.mpr ⟨zd146, List.forall_mem_cons.mpr ⟨zd147, List.forall_mem_cons.mpr ⟨zd148, List.forall_mem_cons.mpr ⟨zd149, List.forall_mem_cons.mpr ⟨zd150, List.forall_mem_cons.mpr ⟨zd151, List.forall_mem_cons.mpr ⟨zd152, List.forall_mem_cons.mpr ⟨zd153, List.forall_mem_cons.mpr ⟨zd154, List.forall_mem_cons.mpr ⟨zd155, List.forall_mem_cons.mpr ⟨zd156, List.forall_mem_cons.mpr ⟨zd157, List.forall_mem_cons.mpr ⟨zd158, List.forall_mem_cons.mpr ⟨zd159, List.forall_mem_cons.mpr ⟨zd160, List.forall_mem_cons.mpr ⟨zd161, List.forall_mem_cons.mpr ⟨zd162, List.forall_mem_cons.mpr ⟨zd163, List.forall_mem_cons.mpr ⟨zd164, List.forall_mem_cons.mpr ⟨zd165, List.forall_mem_cons.mpr ⟨zd166, List.forall_mem_cons.mpr ⟨zd167, List.forall_mem_cons.mpr ⟨zd168, List.forall_mem_cons.mpr ⟨zd169, List.forall_mem_cons.mpr ⟨zd170, List.forall_mem_cons.mpr ⟨zd171, List.forall_mem_cons.mpr ⟨zd172, List.forall_mem_cons.mpr ⟨zd173, List.forall_mem_cons.mpr ⟨zd174, List.forall_mem_cons.mpr ⟨zd175, List.forall_mem_cons.mpr ⟨zd176, List.forall_mem_cons.mpr ⟨zd177, List.forall_mem_cons.mpr ⟨zd178, List.forall_mem_cons.mpr ⟨zd179, List.forall_mem_cons.mpr ⟨zd180, List.forall_mem_cons.mpr ⟨zd181, List.forall_mem_cons.mpr ⟨zd182, List.forall_mem_cons.mpr ⟨zd183, List.forall_mem_cons.mpr ⟨zd184, List.forall_mem_cons.mpr ⟨zd185, List.forall_mem_cons.mpr ⟨zd186, List.forall_mem_cons.mpr ⟨zd187, List.forall_mem_cons.mpr ⟨zd188, List.forall_mem_cons.mpr ⟨zd189, List.forall_mem_cons.mpr ⟨zd190, List.forall_mem_cons.mpr ⟨zd191, List.forall_mem_cons.mpr ⟨zd192, List.forall_mem_cons.mpr ⟨zd193, List.forall_mem_cons.mpr ⟨zd194, List.forall_mem_cons.mpr ⟨zd195, List.forall_mem_cons.mpr ⟨zd196, List.forall_mem_cons.mpr ⟨zd197, List.forall_mem_cons.mpr ⟨zd198, List.forall_mem_cons.mpr ⟨zd199, List.forall_mem_cons.mpr ⟨zd200, List.forall_mem_cons.mpr ⟨zd201, List.forall_mem_cons.mpr ⟨zd202, List.forall_mem_cons.mpr ⟨zd203, List.forall_mem_cons.mpr ⟨zd204, List.forall_mem_cons.mpr ⟨zd205, List.forall_mem_cons.mpr ⟨zd206, List.forall_mem_cons.mpr ⟨zd207, List.forall_mem_cons.mpr ⟨zd208, List.forall_mem_cons.mpr ⟨zd209, List.forall_mem_cons.mpr ⟨zd210, List.forall_mem_cons.mpr ⟨zd211, List.forall_mem_cons.mpr ⟨zd212, List.forall_mem_cons.mpr ⟨zd213, List.forall_mem_cons.mpr ⟨zd214, List.forall_mem_cons.mpr ⟨zd215, List.forall_mem_cons.mpr ⟨zd216, List.forall_mem_cons.mpr ⟨zd217, List.forall_mem_cons.mpr ⟨zd218, List.forall_mem_cons.mpr ⟨zd219, List.forall_mem_cons.mpr ⟨zd220, List.forall_mem_cons.mpr ⟨zd221, List.forall_mem_cons.mpr ⟨zd222, List.forall_mem_cons.mpr ⟨zd223, List.forall_mem_cons.mpr ⟨zd224, List.forall_mem_cons.mpr ⟨zd225, List.forall_mem_cons.mpr ⟨zd226, List.forall_mem_cons.mpr ⟨zd227, List.forall_mem_cons.mpr ⟨zd228, List.forall_mem_cons.mpr ⟨zd229, List.forall_mem_cons.mpr ⟨zd230, List.forall_mem_cons.mpr ⟨zd231, List.forall_mem_cons.mpr ⟨zd232, List.forall_mem_cons.mpr ⟨zd233, List.forall_mem_cons.mpr ⟨zd234, List.forall_mem_cons.mpr ⟨zd235, List.forall_mem_cons.mpr ⟨zd236, List.forall_mem_cons.mpr ⟨zd237, List.forall_mem_cons.mpr ⟨zd238, List.forall_mem_cons.mpr ⟨zd239, List.forall_mem_cons.mpr ⟨zd240, List.forall_mem_cons.mpr ⟨zd241, List.forall_mem_cons.mpr ⟨zd242, List.forall_mem_cons.mpr ⟨zd243, List.forall_mem_cons.mpr ⟨zd244, List.forall_mem_cons.mpr ⟨zd245, List.forall_mem_cons.mpr ⟨zd246, List.forall_mem_cons.mpr ⟨zd247, List.forall_mem_cons.mpr ⟨zd248, List.forall_mem_cons.mpr ⟨zd249, List.forall_mem_cons.mpr ⟨zd250, List.forall_mem_cons.mpr ⟨zd251, List.forall_mem_cons.mpr ⟨zd252, List.forall_mem_cons.mpr ⟨zd253, List.forall_mem_cons.mpr ⟨zd254, List.forall_mem_cons.mpr ⟨zd255, List.forall_mem_cons.mpr ⟨zd256, List.forall_mem_cons.mpr ⟨zd257, List.forall_mem_cons.mpr ⟨zd258, List.forall_mem_cons.mpr ⟨zd259, List.forall_mem_cons.mpr ⟨zd260, List.forall_mem_cons.mpr ⟨zd261, List.forall_mem_cons.mpr ⟨zd262, List.forall_mem_cons.mpr ⟨zd263, List.forall_mem_cons.mpr ⟨zd264, List.forall_mem_cons.mpr ⟨zd265, List.forall_mem_cons.mpr ⟨zd266, List.forall_mem_cons.mpr ⟨zd267, List.forall_mem_cons.mpr ⟨zd268, List.forall_mem_cons.mpr ⟨zd269, List.forall_mem_cons.mpr ⟨zd270, List.forall_mem_cons.mpr ⟨zd271, List.forall_mem_cons.mpr ⟨zd272, List.forall_mem_cons.mpr ⟨zd273, List.forall_mem_cons.mpr ⟨zd274, List.forall_mem_cons.mpr ⟨zd275, List.forall_mem_cons.mpr ⟨zd276, List.forall_mem_cons.mpr ⟨zd277, List.forall_mem_cons.mpr ⟨zd278, List.forall_mem_cons.mpr ⟨zd279, List.forall_mem_cons.mpr ⟨zd280, List.forall_mem_cons.mpr ⟨zd281, List.forall_mem_cons.mpr ⟨zd282, List.forall_mem_cons.mpr ⟨zd283, List.forall_mem_cons.mpr ⟨zd284, List.forall_mem_cons.mpr ⟨zd285, List.forall_mem_cons.mpr ⟨zd286, List.forall_mem_cons.mpr ⟨zd287, List.forall_mem_cons.mpr ⟨zd288, List.forall_mem_cons.mpr ⟨zd289, List.forall_mem_cons.mpr ⟨zd290, List.forall_mem_cons.mpr ⟨zd291, List.forall_mem_cons.mpr ⟨zd292, List.forall_mem_cons.mpr ⟨zd293, List.forall_mem_cons.mpr ⟨zd294, List.forall_mem_cons.mpr ⟨zd295, List.forall_mem_cons.mpr ⟨zd296, List.forall_mem_cons.mpr ⟨zd297, List.forall_mem_cons.mpr ⟨zd298, List.forall_mem_cons.mpr ⟨zd299, List.forall_mem_cons.mpr ⟨zd300, List.forall_mem_cons.mpr ⟨zd301, List.forall_mem_cons.mpr ⟨zd302, List.forall_mem_cons.mpr ⟨zd303, List.forall_mem_cons.mpr ⟨zd304, List.forall_mem_cons.mpr ⟨zd305, List.forall_mem_cons.mpr ⟨zd306, List.forall_mem_cons.mpr ⟨zd307, List.forall_mem_cons.mpr ⟨zd308, List.forall_mem_cons.mpr ⟨zd309, List.forall_mem_cons.mpr ⟨zd310, List.forall_mem_cons.mpr ⟨zd311, List.forall_mem_cons.mpr ⟨zd312, List.forall_mem_cons.mpr ⟨zd313, List.forall_mem_cons.mpr ⟨zd314, List.forall_mem_cons.mpr ⟨zd315, List.forall_mem_cons.mpr ⟨zd316, List.forall_mem_cons.mpr ⟨zd317, List.forall_mem_cons.mpr ⟨zd318, List.forall_mem_cons.mpr ⟨zd319, List.forall_mem_cons.mpr ⟨zd320, List.forall_mem_cons.mpr ⟨zd321, List.forall_mem_cons.mpr ⟨zd322, List.forall_mem_cons.mpr ⟨zd323, List.forall_mem_cons.mpr ⟨zd324, List.forall_mem_cons.mpr ⟨zd325, List.forall_mem_cons.mpr ⟨zd326, List.forall_mem_cons.mpr ⟨zd327, List.forall_mem_cons.mpr ⟨zd328, List.forall_mem_cons.mpr ⟨zd329, List.forall_mem_cons.mpr ⟨zd330, List.forall_mem_cons.mpr ⟨zd331, List.forall_mem_cons.mpr ⟨zd332, List.forall_mem_cons.mpr ⟨zd333, List.forall_mem_cons.mpr ⟨zd334, List.forall_mem_cons.mpr ⟨zd335, List.forall_mem_cons.mpr ⟨zd336, List.forall_mem_cons.mpr ⟨zd337, List.forall_mem_cons.mpr ⟨zd338, List.forall_mem_cons.mpr ⟨zd339, List.forall_mem_cons.mpr ⟨zd340, List.forall_mem_cons.mpr ⟨zd341, List.forall_mem_cons.mpr ⟨zd342, List.forall_mem_cons.mpr ⟨zd343, List.forall_mem_cons.mpr ⟨zd344, List.forall_mem_cons.mpr ⟨zd345, List.forall_mem_cons.mpr ⟨zd346, List.forall_mem_cons.mpr ⟨zd347, List.forall_mem_cons.mpr ⟨zd348, List.forall_mem_cons.mpr ⟨zd349, List.forall_mem_cons.mpr ⟨zd350, List.forall_mem_cons.mpr ⟨zd351, List.forall_mem_cons.mpr ⟨zd352, List.forall_mem_cons.mpr ⟨zd353, List.forall_mem_cons.mpr ⟨zd354, List.forall_mem_cons.mpr ⟨zd355, List.forall_mem_cons.mpr ⟨zd356, List.forall_mem_cons.mpr ⟨zd357, List.forall_mem_cons.mpr ⟨zd358, List.forall_mem_cons.mpr ⟨zd359, List.forall_mem_cons.mpr ⟨zd360, List.forall_mem_cons.mpr ⟨zd361, List.forall_mem_cons.mpr ⟨zd362, List.forall_mem_cons.mpr ⟨zd363, List.forall_mem_cons.mpr ⟨zd364, List.forall_mem_cons.mpr ⟨zd365, fun _ h => absurd h List.not_mem_nil⟩⟩⟩⟩⟩⟩⟩⟩⟩⟩⟩⟩⟩⟩⟩⟩⟩⟩⟩⟩⟩⟩⟩⟩⟩⟩⟩⟩⟩⟩⟩⟩⟩⟩⟩⟩⟩⟩⟩⟩⟩⟩⟩⟩⟩⟩⟩⟩⟩⟩⟩⟩⟩⟩⟩⟩⟩⟩⟩⟩⟩⟩⟩⟩⟩⟩⟩⟩⟩⟩⟩⟩⟩⟩⟩⟩⟩⟩⟩⟩⟩⟩⟩⟩⟩⟩⟩⟩⟩⟩⟩⟩⟩⟩⟩⟩⟩⟩⟩⟩⟩⟩⟩⟩⟩⟩⟩⟩⟩⟩⟩⟩⟩⟩⟩⟩⟩⟩⟩⟩⟩⟩⟩⟩⟩⟩⟩⟩⟩⟩⟩⟩⟩⟩⟩⟩⟩⟩⟩⟩⟩⟩⟩⟩⟩⟩⟩⟩⟩⟩⟩⟩⟩⟩⟩⟩⟩⟩⟩⟩⟩⟩⟩⟩⟩⟩⟩⟩⟩⟩⟩⟩⟩⟩⟩⟩⟩⟩⟩⟩⟩⟩⟩⟩⟩⟩⟩⟩⟩⟩⟩⟩⟩⟩⟩⟩⟩⟩⟩⟩⟩⟩⟩⟩⟩⟩⟩⟩⟩⟩⟩⟩⟩⟩⟩⟩⟩⟩⟩⟩⟩⟩⟩⟩⟩⟩⟩⟩⟩⟩⟩⟩⟩⟩⟩⟩⟩⟩⟩⟩⟩⟩⟩⟩⟩⟩⟩⟩⟩⟩⟩⟩⟩⟩⟩⟩⟩⟩⟩⟩⟩⟩⟩⟩⟩⟩⟩⟩⟩⟩⟩⟩⟩⟩⟩⟩⟩⟩⟩⟩⟩⟩⟩⟩⟩⟩⟩⟩⟩⟩⟩⟩⟩⟩⟩⟩⟩⟩⟩⟩⟩⟩⟩⟩⟩⟩⟩⟩⟩⟩⟩⟩⟩⟩⟩⟩⟩⟩⟩⟩⟩⟩⟩⟩⟩⟩⟩⟩⟩⟩⟩⟩⟩⟩⟩⟩⟩⟩⟩⟩⟩⟩⟩⟩⟩⟩⟩⟩⟩⟩⟩⟩⟩⟩⟩⟩⟩⟩⟩⟩⟩⟩⟩⟩⟩⟩
set_option maxRecDepth 100000 in
theorem zok_mt : zMTOk zN zTs zMT := zMT_ok zok_mi zok_d
theorem zok_all {cA : Nat → ClassId} {tys : List (ClassId × FieldType)} (hty : zTyOk cA ztyl tys) : zAllOk zT1 zN zTs cA tys := ⟨⟨zok_cls, zok_g, zFL_ok zck_FL, hty, zNW_ok zck_NW, zAN_ok zck_AN, zMN_ok zck_MN, zKI_ok zck_KI, zKL_ok zck_KL, (fun _ _ _ h => by cases h), zok_ar, zSF_ok zck_SF, zGS_ok zck_GS⟩, zok_mt, zCT_ok zck_CT, zTs_good⟩
theorem z_tc : zTcOk zcl ztyl ztc := by
  intro t ci z h _
  have hm := z_as_mem h
  simp only [ztc, List.mem_cons, List.not_mem_nil, or_false] at hm
  rcases hm with e | e
  · cases e; exact ⟨_, rfl, rfl⟩
  · cases e; exact ⟨_, rfl, rfl⟩
theorem zok_all0 {cA : Nat → ClassId} {tys : List (ClassId × FieldType)} (hty : zTyOk cA ztyl tys) : zAllOk zT0 zN zTs cA tys := ⟨⟨zok_cls, zok_g0, zFL_ok zck_FL, hty, zNW_ok zck_NW, zAN_ok zck_AN, zMN_ok zck_MN, zKI_ok zck_KI, zKL_ok zck_KL, z_tc, zok_ar, zSF_ok zck_SF, zGS_ok zck_GS⟩, zok_mt, zCT_ok zck_CT, zTs_good⟩
